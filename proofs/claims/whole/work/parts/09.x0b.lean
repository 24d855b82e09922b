theorem up_le {f : Nat → Nat} {k x n : Nat} (h : ∀ j, f j ≤ n) (hx : x ≤ n) : ∀ j, up f k x j ≤ n := by
  intro j; unfold up; split
  · exact hx
  · exact h j
section RDM
variable {p : Program} {l : Launch} {e : Env} {R : Room} {s : State} {m : MethodId} {args : Array Value} {below : List Frame} {meth : Method} {c : Code} {H : Heap} {locs : List Loc} {cells slots : Nat} {Q : State → Prop}
variable {pc mc ms mc' ms' : Nat} {ls : Array Slot} {rest st0 : List Value} {a : Array Value} {px px' : String → Prop} {free' : Addr → Prop} {Qc : Array Value → State → Outcome → State → Prop}
theorem rdm_calli {post : Int32 → Prop} (hr : va_Run p l e R s m args below meth c H locs cells slots mc ms (F0 m pc ls st0) rest (rd_Qi post a) (fun _ => False))
    (kk : ∀ r : Int32, post r → W p l e R s m args below meth c H locs (cells + mc) (slots + ms) Q (F0 m (pc + 3) ls (.int r :: rest))) : W p l e R s m args below meth c H locs cells slots Q (F0 m pc ls st0) := by
  intro T hT X
  obtain ⟨v, st₀, t, T', L, h0, X', hL, e1, e2, ⟨⟨r, hv, hp⟩, hh⟩, st⟩ := hr T hT X
  cases hv
  cases rd_nil hL
  rw [List.append_nil] at X'
  obtain ⟨t2, a1, b1⟩ := kk r hp T' (by rw [e1, hh, h0]) X'
  exact ⟨t2, st t2 a1, b1⟩
/-- a call that never returns: what it throws goes on to the caller -/
theorem kn_never (hr : vx_Run p l e R s m args below meth c s.heap [] cells slots mc ms (F0 m pc ls st0) rest (fun _ _ _ => False) (rd_X px) (fun _ => False)) (hno : ∀ x ∈ c.exceptionTable.toList, False) (hlocks : meth.locks = false) (hpx : ∀ E, px E → px' E) (hc : cells + mc ≤ mc') (hs : slots + ms ≤ ms') : W p l e R s m args below meth c s.heap [] cells slots (vx_MQ below Qc (rd_X px') args s mc' ms' free') (F0 m pc ls st0) := by
  intro T hT X
  rcases hr T hT X with ⟨v, st₀, t, T', L, h0, X', hL, e1, e2, hf, st⟩ | ⟨q, st₀, t, T', L, E, ce, h0, X', hL, e1, e2, ⟨hp, hF⟩, hce, hcv, hcl, st⟩
  · exact hf.elim
  · cases rd_nil hL
    obtain ⟨t2, a1, b1⟩ := (vx_out (Qc := Qc) (XC := rd_X px') (free := free') (H := T'.heap) (pc := pc) (ls := ls) (rest := rest) (fun x hx => (hno x hx).elim) hlocks (by rw [e1]; exact hce) hcv hcl (fun t9 ht9 _ => ⟨hpx E hp, by rw [ht9, e1]; unfold va_F at hF; rw [h0] at hF; exact hF.1, by rw [ht9, e1]; unfold va_F at hF; rw [h0] at hF; exact hF.2⟩) (fun z hz => absurd hz List.not_mem_nil) hc hs : vx_W p l e R s m args below meth c T'.heap [] (cells + mc) (slots + ms) (vx_MQ below Qc (rd_X px') args s mc' ms' free') (F0 m pc ls rest) q) T' rfl X'
    exact ⟨t2, st.trans a1, b1⟩
end RDM
/-- the best place of the first i of a strip -/
def bs (nb : Nat → Bool) (v : Nat → UInt64) (t k : Nat) : Nat → Nat
  | 0 => 164
  | i + 1 => if nb (t * 12 + i) = true ∧ bs nb v t k i = 164 then t * 12 + i else if rp nb v (t * 12 + i) (bs nb v t k i) k = true then t * 12 + i else bs nb v t k i
theorem bs_lt {nb : Nat → Bool} {v : Nat → UInt64} {t k : Nat} (ht : t < 12) : ∀ {i : Nat}, i ≤ 12 → bs nb v t k i < 165
  | 0, _ => by simp [bs]
  | i + 1, h => by
    have := bs_lt (nb := nb) (v := v) (k := k) ht (i := i) (by omega)
    unfold bs
    split
    · omega
    · split <;> omega
theorem met_of_ok {l : Launch} {y : MethodName} {ws : List Cond} {rm : Room} {Pc : Array Value → State → Prop} {Qc : Array Value → State → Outcome → State → Prop} {mc ms : Nat} {free : Addr → Prop} (h : vx_Met l y ws rm Pc Qc (rd_X (fun _ => False)) mc ms free) : Met l y ws rm Pc Qc mc ms free := by
  intro p e ha hc hk s m args below hf happ hP hK
  obtain ⟨n, o, h1, h2, h3, h4⟩ := h p e ha hc hk s m args below hf happ hP hK
  refine ⟨n, o, h1, h2, h3, ?_⟩
  rcases h4 with h4 | ⟨q, -, E, ce, L, h5, -⟩
  · exact h4
  · exact h5.1.elim
set_option maxHeartbeats 4000000 in
set_option maxRecDepth 100000 in
theorem c_X0_needGauge (l : Launch) (hl0 : l.stackTraces = false) (x : Int32) : vx_Met l yX0_needGauge wsX0_needGauge ({ frames := 6, cells := 1, slots := 6, locals := 82 }) (va_Pc [.int x] (fun U => xOK U)) (rd_Qv (InN 6 x)) (rd_X (fun E => E = IAE ∧ ¬ InN 6 x)) 1 6 (fun _ => False) := by
  refine vx_ofW (cc := cX0_needGauge) (maxL := 1) (ret := none) (by decide) rfl ?_
  intro p e s m args below meth c s₁ B hml hno hv
  obtain ⟨rfl, hX⟩ := hv
  have hx := B.exec
  have hb := B.bytes
  have hr := B.returns
  have hts := atoms_spec (ws := wsX0_needGauge) B.pre
  have hown : s.vm.findClass RX0 = some m.cls := findClass_of_methodNamed B.named
  have hlocks := B.notSynchronized
  have hl := lv_entry ([.int x]) (n := 1) (Nat.le_of_ble_eq_true rfl)
  rw [lg_entry_eq]
  generalize (lg_sl ([.int x]) ++ List.replicate (1 - (lg_sl ([.int x])).length) Slot.unset).toArray = ls at hl ⊢
  have hl : lv_has ls 1 [(0, .int x)] := hl
  refine lv_iload_n hx hb dX0_needGauge_0 rfl (lv_at hl 0 rfl) ?_
  refine lv_if_lt (tgt := 10) hx hb dX0_needGauge_1 (by decide) (fun c_1 => ?_) (fun c_1 => ?_)
  · exact th_S (l := l) hx hb hl0 hown (by decide +kernel) (hts (.classLink RX0 59 IAE) (by decide +kernel)) (hts (.initialized IAE) (by decide +kernel)) (xS_138 hX.2.1) (fun w h => hts w (List.mem_cons_of_mem _ (List.mem_append_right _ h))) xn_IAE hX.2.2.2.1 xg_IAE hX (by rw [hml]; exact hl.1) dX0_needGauge_10 dX0_needGauge_13 dX0_needGauge_14 dX0_needGauge_16 dX0_needGauge_19 hno (Nat.le_of_ble_eq_true rfl) (Nat.le_of_ble_eq_true rfl) (Nat.le_of_ble_eq_true rfl) (Nat.le_of_ble_eq_true rfl) hlocks (⟨rfl, in_neg (by decide) c_1⟩) (Nat.le_of_ble_eq_true rfl) (Nat.le_of_ble_eq_true rfl)
  · refine lv_iload_n hx hb dX0_needGauge_4 rfl (lv_at hl 0 rfl) ?_
    refine lv_bipush (v := nI 6) hx hb dX0_needGauge_5 (by decide) ?_
    refine lv_icmp_lt (tgt := 20) hx hb dX0_needGauge_7 (by decide) (fun c_2 => ?_) (fun c_2 => ?_)
    · refine vx_ret ?_
      refine W.widen (k := 1) (n := 6) (Nat.le_of_ble_eq_true rfl) (Nat.le_of_ble_eq_true rfl) ?_
      exact W.vret hx hb hr (fun t9 ht9 hW9 => ⟨⟨rfl, in_of (by decide) c_1 c_2⟩, ht9⟩) (fun q hq => absurd hq List.not_mem_nil) dX0_needGauge_20
    · exact th_S (l := l) hx hb hl0 hown (by decide +kernel) (hts (.classLink RX0 59 IAE) (by decide +kernel)) (hts (.initialized IAE) (by decide +kernel)) (xS_138 hX.2.1) (fun w h => hts w (List.mem_cons_of_mem _ (List.mem_append_right _ h))) xn_IAE hX.2.2.2.1 xg_IAE hX (by rw [hml]; exact hl.1) dX0_needGauge_10 dX0_needGauge_13 dX0_needGauge_14 dX0_needGauge_16 dX0_needGauge_19 hno (Nat.le_of_ble_eq_true rfl) (Nat.le_of_ble_eq_true rfl) (Nat.le_of_ble_eq_true rfl) (Nat.le_of_ble_eq_true rfl) hlocks (⟨rfl, in_big (by decide) c_2⟩) (Nat.le_of_ble_eq_true rfl) (Nat.le_of_ble_eq_true rfl)
set_option maxHeartbeats 4000000 in
set_option maxRecDepth 100000 in
theorem c_X0_needWhat (l : Launch) (hl0 : l.stackTraces = false) (x : Int32) : vx_Met l yX0_needWhat wsX0_needWhat ({ frames := 6, cells := 1, slots := 6, locals := 82 }) (va_Pc [.int x] (fun U => xOK U)) (rd_Qv (InN 2 x)) (rd_X (fun E => E = IAE ∧ ¬ InN 2 x)) 1 6 (fun _ => False) := by
  refine vx_ofW (cc := cX0_needWhat) (maxL := 1) (ret := none) (by decide) rfl ?_
  intro p e s m args below meth c s₁ B hml hno hv
  obtain ⟨rfl, hX⟩ := hv
  have hx := B.exec
  have hb := B.bytes
  have hr := B.returns
  have hts := atoms_spec (ws := wsX0_needWhat) B.pre
  have hown : s.vm.findClass RX0 = some m.cls := findClass_of_methodNamed B.named
  have hlocks := B.notSynchronized
  have hl := lv_entry ([.int x]) (n := 1) (Nat.le_of_ble_eq_true rfl)
  rw [lg_entry_eq]
  generalize (lg_sl ([.int x]) ++ List.replicate (1 - (lg_sl ([.int x])).length) Slot.unset).toArray = ls at hl ⊢
  have hl : lv_has ls 1 [(0, .int x)] := hl
  refine lv_iload_n hx hb dX0_needWhat_0 rfl (lv_at hl 0 rfl) ?_
  refine lv_if_lt (tgt := 9) hx hb dX0_needWhat_1 (by decide) (fun c_1 => ?_) (fun c_1 => ?_)
  · exact th_S (l := l) hx hb hl0 hown (by decide +kernel) (hts (.classLink RX0 59 IAE) (by decide +kernel)) (hts (.initialized IAE) (by decide +kernel)) (xS_140 hX.2.1) (fun w h => hts w (List.mem_cons_of_mem _ (List.mem_append_right _ h))) xn_IAE hX.2.2.2.1 xg_IAE hX (by rw [hml]; exact hl.1) dX0_needWhat_9 dX0_needWhat_12 dX0_needWhat_13 dX0_needWhat_15 dX0_needWhat_18 hno (Nat.le_of_ble_eq_true rfl) (Nat.le_of_ble_eq_true rfl) (Nat.le_of_ble_eq_true rfl) (Nat.le_of_ble_eq_true rfl) hlocks (⟨rfl, in_neg (by decide) c_1⟩) (Nat.le_of_ble_eq_true rfl) (Nat.le_of_ble_eq_true rfl)
  · refine lv_iload_n hx hb dX0_needWhat_4 rfl (lv_at hl 0 rfl) ?_
    refine lv_iconst (v := nI 2) hx hb dX0_needWhat_5 (by decide) ?_
    refine lv_icmp_lt (tgt := 19) hx hb dX0_needWhat_6 (by decide) (fun c_2 => ?_) (fun c_2 => ?_)
    · refine vx_ret ?_
      refine W.widen (k := 1) (n := 6) (Nat.le_of_ble_eq_true rfl) (Nat.le_of_ble_eq_true rfl) ?_
      exact W.vret hx hb hr (fun t9 ht9 hW9 => ⟨⟨rfl, in_of (by decide) c_1 c_2⟩, ht9⟩) (fun q hq => absurd hq List.not_mem_nil) dX0_needWhat_19
    · exact th_S (l := l) hx hb hl0 hown (by decide +kernel) (hts (.classLink RX0 59 IAE) (by decide +kernel)) (hts (.initialized IAE) (by decide +kernel)) (xS_140 hX.2.1) (fun w h => hts w (List.mem_cons_of_mem _ (List.mem_append_right _ h))) xn_IAE hX.2.2.2.1 xg_IAE hX (by rw [hml]; exact hl.1) dX0_needWhat_9 dX0_needWhat_12 dX0_needWhat_13 dX0_needWhat_15 dX0_needWhat_18 hno (Nat.le_of_ble_eq_true rfl) (Nat.le_of_ble_eq_true rfl) (Nat.le_of_ble_eq_true rfl) (Nat.le_of_ble_eq_true rfl) hlocks (⟨rfl, in_big (by decide) c_2⟩) (Nat.le_of_ble_eq_true rfl) (Nat.le_of_ble_eq_true rfl)
set_option maxHeartbeats 4000000 in
set_option maxRecDepth 100000 in
theorem c_X0_needRelation (l : Launch) (hl0 : l.stackTraces = false) (x : Int32) : vx_Met l yX0_needRelation wsX0_needRelation ({ frames := 6, cells := 1, slots := 6, locals := 82 }) (va_Pc [.int x] (fun U => xOK U)) (rd_Qv (InN 6 x)) (rd_X (fun E => E = IAE ∧ ¬ InN 6 x)) 1 6 (fun _ => False) := by
  refine vx_ofW (cc := cX0_needRelation) (maxL := 1) (ret := none) (by decide) rfl ?_
  intro p e s m args below meth c s₁ B hml hno hv
  obtain ⟨rfl, hX⟩ := hv
  have hx := B.exec
  have hb := B.bytes
  have hr := B.returns
  have hts := atoms_spec (ws := wsX0_needRelation) B.pre
  have hown : s.vm.findClass RX0 = some m.cls := findClass_of_methodNamed B.named
  have hlocks := B.notSynchronized
  have hl := lv_entry ([.int x]) (n := 1) (Nat.le_of_ble_eq_true rfl)
  rw [lg_entry_eq]
  generalize (lg_sl ([.int x]) ++ List.replicate (1 - (lg_sl ([.int x])).length) Slot.unset).toArray = ls at hl ⊢
  have hl : lv_has ls 1 [(0, .int x)] := hl
  refine lv_iload_n hx hb dX0_needRelation_0 rfl (lv_at hl 0 rfl) ?_
  refine lv_if_lt (tgt := 10) hx hb dX0_needRelation_1 (by decide) (fun c_1 => ?_) (fun c_1 => ?_)
  · exact th_S (l := l) hx hb hl0 hown (by decide +kernel) (hts (.classLink RX0 59 IAE) (by decide +kernel)) (hts (.initialized IAE) (by decide +kernel)) (xS_142 hX.2.1) (fun w h => hts w (List.mem_cons_of_mem _ (List.mem_append_right _ h))) xn_IAE hX.2.2.2.1 xg_IAE hX (by rw [hml]; exact hl.1) dX0_needRelation_10 dX0_needRelation_13 dX0_needRelation_14 dX0_needRelation_16 dX0_needRelation_19 hno (Nat.le_of_ble_eq_true rfl) (Nat.le_of_ble_eq_true rfl) (Nat.le_of_ble_eq_true rfl) (Nat.le_of_ble_eq_true rfl) hlocks (⟨rfl, in_neg (by decide) c_1⟩) (Nat.le_of_ble_eq_true rfl) (Nat.le_of_ble_eq_true rfl)
  · refine lv_iload_n hx hb dX0_needRelation_4 rfl (lv_at hl 0 rfl) ?_
    refine lv_bipush (v := nI 6) hx hb dX0_needRelation_5 (by decide) ?_
    refine lv_icmp_lt (tgt := 20) hx hb dX0_needRelation_7 (by decide) (fun c_2 => ?_) (fun c_2 => ?_)
    · refine vx_ret ?_
      refine W.widen (k := 1) (n := 6) (Nat.le_of_ble_eq_true rfl) (Nat.le_of_ble_eq_true rfl) ?_
      exact W.vret hx hb hr (fun t9 ht9 hW9 => ⟨⟨rfl, in_of (by decide) c_1 c_2⟩, ht9⟩) (fun q hq => absurd hq List.not_mem_nil) dX0_needRelation_20
    · exact th_S (l := l) hx hb hl0 hown (by decide +kernel) (hts (.classLink RX0 59 IAE) (by decide +kernel)) (hts (.initialized IAE) (by decide +kernel)) (xS_142 hX.2.1) (fun w h => hts w (List.mem_cons_of_mem _ (List.mem_append_right _ h))) xn_IAE hX.2.2.2.1 xg_IAE hX (by rw [hml]; exact hl.1) dX0_needRelation_10 dX0_needRelation_13 dX0_needRelation_14 dX0_needRelation_16 dX0_needRelation_19 hno (Nat.le_of_ble_eq_true rfl) (Nat.le_of_ble_eq_true rfl) (Nat.le_of_ble_eq_true rfl) (Nat.le_of_ble_eq_true rfl) hlocks (⟨rfl, in_big (by decide) c_2⟩) (Nat.le_of_ble_eq_true rfl) (Nat.le_of_ble_eq_true rfl)
set_option maxHeartbeats 4000000 in
set_option maxRecDepth 100000 in
theorem c_X0_needLevel (l : Launch) (hl0 : l.stackTraces = false) (x : UInt64) : vx_Met l yX0_needLevel wsX0_needLevel ({ frames := 6, cells := 1, slots := 6, locals := 82 }) (va_Pc [.double x] (fun U => xOK U)) (rd_Qv (lvl x = true)) (rd_X (fun E => E = IAE ∧ lvl x = false)) 1 6 (fun _ => False) := by
  refine vx_ofW (cc := cX0_needLevel) (maxL := 2) (ret := none) (by decide) rfl ?_
  intro p e s m args below meth c s₁ B hml hno hv
  obtain ⟨rfl, hX⟩ := hv
  have hx := B.exec
  have hb := B.bytes
  have hr := B.returns
  have hts := atoms_spec (ws := wsX0_needLevel) B.pre
  have hown : s.vm.findClass RX0 = some m.cls := findClass_of_methodNamed B.named
  have hlocks := B.notSynchronized
  have hl := lv_entry ([.double x]) (n := 2) (Nat.le_of_ble_eq_true rfl)
  rw [lg_entry_eq]
  generalize (lg_sl ([.double x]) ++ List.replicate (2 - (lg_sl ([.double x])).length) Slot.unset).toArray = ls at hl ⊢
  have hl : lv_has ls 2 [(0, .double x)] := hl
  have hc_144 := hts (.constantDouble RX0 144 13875379345695965184) (by decide +kernel)
  have hc_146 := hts (.constantDouble RX0 146 4652007308841189376) (by decide +kernel)
  refine lv_dload_n hx hb dX0_needLevel_0 rfl (lv_at hl 0 rfl) ?_
  refine lv_ldc2d hx hb hown hc_144 dX0_needLevel_1 ?_
  refine kc_dl_lt (tgt := 16) hx hb dX0_needLevel_4 dX0_needLevel_5 (by decide) (fun c_1 => ?_) (fun c_1 => ?_)
  · exact th_S (l := l) hx hb hl0 hown (by decide +kernel) (hts (.classLink RX0 59 IAE) (by decide +kernel)) (hts (.initialized IAE) (by decide +kernel)) (xS_148 hX.2.1) (fun w h => hts w (List.mem_cons_of_mem _ (List.mem_append_right _ h))) xn_IAE hX.2.2.2.1 xg_IAE hX (by rw [hml]; exact hl.1) dX0_needLevel_16 dX0_needLevel_19 dX0_needLevel_20 dX0_needLevel_22 dX0_needLevel_25 hno (Nat.le_of_ble_eq_true rfl) (Nat.le_of_ble_eq_true rfl) (Nat.le_of_ble_eq_true rfl) (Nat.le_of_ble_eq_true rfl) hlocks (⟨rfl, by simp [lvl, c_1]⟩) (Nat.le_of_ble_eq_true rfl) (Nat.le_of_ble_eq_true rfl)
  · refine lv_dload_n hx hb dX0_needLevel_8 rfl (lv_at hl 0 rfl) ?_
    refine lv_ldc2d hx hb hown hc_146 dX0_needLevel_9 ?_
    refine kc_dg_le (tgt := 26) hx hb dX0_needLevel_12 dX0_needLevel_13 (by decide) (fun c_2 => ?_) (fun c_2 => ?_)
    · refine vx_ret ?_
      refine W.widen (k := 1) (n := 6) (Nat.le_of_ble_eq_true rfl) (Nat.le_of_ble_eq_true rfl) ?_
      exact W.vret hx hb hr (fun t9 ht9 hW9 => ⟨⟨rfl, by simp [lvl, c_1, c_2]⟩, ht9⟩) (fun q hq => absurd hq List.not_mem_nil) dX0_needLevel_26
    · exact th_S (l := l) hx hb hl0 hown (by decide +kernel) (hts (.classLink RX0 59 IAE) (by decide +kernel)) (hts (.initialized IAE) (by decide +kernel)) (xS_148 hX.2.1) (fun w h => hts w (List.mem_cons_of_mem _ (List.mem_append_right _ h))) xn_IAE hX.2.2.2.1 xg_IAE hX (by rw [hml]; exact hl.1) dX0_needLevel_16 dX0_needLevel_19 dX0_needLevel_20 dX0_needLevel_22 dX0_needLevel_25 hno (Nat.le_of_ble_eq_true rfl) (Nat.le_of_ble_eq_true rfl) (Nat.le_of_ble_eq_true rfl) (Nat.le_of_ble_eq_true rfl) hlocks (⟨rfl, by simp [lvl, c_1, c_2]⟩) (Nat.le_of_ble_eq_true rfl) (Nat.le_of_ble_eq_true rfl)
set_option maxHeartbeats 4000000 in
set_option maxRecDepth 100000 in
theorem c_X0_needWind (l : Launch) (hl0 : l.stackTraces = false) (x : UInt32) : vx_Met l yX0_needWind wsX0_needWind ({ frames := 6, cells := 1, slots := 6, locals := 82 }) (va_Pc [.float x] (fun U => xOK U)) (rd_Qv (wnd x = true)) (rd_X (fun E => E = IAE ∧ wnd x = false)) 1 6 (fun _ => False) := by
  refine vx_ofW (cc := cX0_needWind) (maxL := 1) (ret := none) (by decide) rfl ?_
  intro p e s m args below meth c s₁ B hml hno hv
  obtain ⟨rfl, hX⟩ := hv
  have hx := B.exec
  have hb := B.bytes
  have hr := B.returns
  have hts := atoms_spec (ws := wsX0_needWind) B.pre
  have hown : s.vm.findClass RX0 = some m.cls := findClass_of_methodNamed B.named
  have hlocks := B.notSynchronized
  have hl := lv_entry ([.float x]) (n := 1) (Nat.le_of_ble_eq_true rfl)
  rw [lg_entry_eq]
  generalize (lg_sl ([.float x]) ++ List.replicate (1 - (lg_sl ([.float x])).length) Slot.unset).toArray = ls at hl ⊢
  have hl : lv_has ls 1 [(0, .float x)] := hl
  have hc_150 := hts (.constantFloat RX0 150 1128792064) (by decide +kernel)
  refine lv_fload_n hx hb dX0_needWind_0 rfl (lv_at hl 0 rfl) ?_
  refine lv_fconst0 hx hb dX0_needWind_1 ?_
  refine kc_fl_lt (tgt := 13) hx hb dX0_needWind_2 dX0_needWind_3 (by decide) (fun c_1 => ?_) (fun c_1 => ?_)
  · exact th_S (l := l) hx hb hl0 hown (by decide +kernel) (hts (.classLink RX0 59 IAE) (by decide +kernel)) (hts (.initialized IAE) (by decide +kernel)) (xS_151 hX.2.1) (fun w h => hts w (List.mem_cons_of_mem _ (List.mem_append_right _ h))) xn_IAE hX.2.2.2.1 xg_IAE hX (by rw [hml]; exact hl.1) dX0_needWind_13 dX0_needWind_16 dX0_needWind_17 dX0_needWind_19 dX0_needWind_22 hno (Nat.le_of_ble_eq_true rfl) (Nat.le_of_ble_eq_true rfl) (Nat.le_of_ble_eq_true rfl) (Nat.le_of_ble_eq_true rfl) hlocks (⟨rfl, by simp [wnd, c_1]⟩) (Nat.le_of_ble_eq_true rfl) (Nat.le_of_ble_eq_true rfl)
  · refine lv_fload_n hx hb dX0_needWind_6 rfl (lv_at hl 0 rfl) ?_
    refine lv_ldcf hx hb hown hc_150 dX0_needWind_7 ?_
    refine kc_fg_le (tgt := 23) hx hb dX0_needWind_9 dX0_needWind_10 (by decide) (fun c_2 => ?_) (fun c_2 => ?_)
    · refine vx_ret ?_
      refine W.widen (k := 1) (n := 6) (Nat.le_of_ble_eq_true rfl) (Nat.le_of_ble_eq_true rfl) ?_
      exact W.vret hx hb hr (fun t9 ht9 hW9 => ⟨⟨rfl, by simp [wnd, c_1, c_2]⟩, ht9⟩) (fun q hq => absurd hq List.not_mem_nil) dX0_needWind_23
    · exact th_S (l := l) hx hb hl0 hown (by decide +kernel) (hts (.classLink RX0 59 IAE) (by decide +kernel)) (hts (.initialized IAE) (by decide +kernel)) (xS_151 hX.2.1) (fun w h => hts w (List.mem_cons_of_mem _ (List.mem_append_right _ h))) xn_IAE hX.2.2.2.1 xg_IAE hX (by rw [hml]; exact hl.1) dX0_needWind_13 dX0_needWind_16 dX0_needWind_17 dX0_needWind_19 dX0_needWind_22 hno (Nat.le_of_ble_eq_true rfl) (Nat.le_of_ble_eq_true rfl) (Nat.le_of_ble_eq_true rfl) (Nat.le_of_ble_eq_true rfl) hlocks (⟨rfl, by simp [wnd, c_1, c_2]⟩) (Nat.le_of_ble_eq_true rfl) (Nat.le_of_ble_eq_true rfl)
set_option maxHeartbeats 4000000 in
set_option maxRecDepth 100000 in
theorem c_X0_needRoom (l : Launch) (D : va_G) (h0 hn hd hq : Nat) (cZ cD cI : ClassId) (nb : Nat → Bool) (v : Nat → UInt64) (ln : Nat → Nat) (go : Bool) (mv : Int32) (hln : ∀ j, ln j ≤ 12) (hl0 : l.stackTraces = false) (t : Nat) (ht : t < 12) : vx_Met l yX0_needRoom wsX0_needRoom ({ frames := 6, cells := 1, slots := 6, locals := 82 }) (va_Pc [.ref h0, .int (nI t)] (fun U => xOK U ∧ va_P D vwCl (WB h0 hn hd hq cZ cD cI nb v ln go mv) U.heap ∧ va_K D vwCl (TY cZ cD cI) U)) (rd_Qv (ln t < 12)) (rd_X (fun E => E = ISE ∧ ln t = 12)) 1 6 (fun _ => False) := by
  refine vx_ofW (cc := cX0_needRoom) (maxL := 2) (ret := none) (by decide) rfl ?_
  intro p e s m args below meth c s₁ B hml hno hv
  obtain ⟨rfl, hX, hP, hK⟩ := hv
  have hx := B.exec
  have hb := B.bytes
  have hr := B.returns
  have hts := atoms_spec (ws := wsX0_needRoom) B.pre
  have hown : s.vm.findClass RX0 = some m.cls := findClass_of_methodNamed B.named
  have hlocks := B.notSynchronized
  have hl := lv_entry ([.ref h0, .int (nI t)]) (n := 2) (Nat.le_of_ble_eq_true rfl)
  rw [lg_entry_eq]
  generalize (lg_sl ([.ref h0, .int (nI t)]) ++ List.replicate (2 - (lg_sl ([.ref h0, .int (nI t)])).length) Slot.unset).toArray = ls at hl ⊢
  have hl : lv_has ls 2 [(0, .ref h0), (1, .int (nI t))] := hl
  have hinRX0 : ∀ w ∈ wsX00, w ∈ wsX0_needRoom := by decide +kernel
  have hf_17 := hts (.fieldLink RX0 17 "HarbourBoard" "lengths" "[I") (by decide +kernel)
  have h1 := hln t
  refine lv_aload_n hx hb dX0_needRoom_0 rfl (lv_at hl 0 rfl) ?_
  refine va_get (D := D) (ci := 1) (v := .ref hq) (C := RX0) (T := TX0) (N := 5) hx hb hts hinRX0 hown hK hP 0 rfl rfl 2 (by decide) hf_17 (fun _ h9 => h9) rfl dX0_needRoom_1 ?_
  refine lv_iload_n hx hb dX0_needRoom_4 rfl (lv_at hl 1 rfl) ?_
  refine kn_iald hx hb hK hP 3 2 rfl rfl (by omega) (by decide) dX0_needRoom_5 ?_
  refine lv_bipush (v := nI 12) hx hb dX0_needRoom_6 (by decide) ?_
  refine kn_icmp_lt (tgt := 21) hx hb (by omega) (by decide) dX0_needRoom_8 (by decide) (fun c_1 => ?_) (fun c_1 => ?_)
  · refine vx_ret ?_
    refine W.widen (k := 1) (n := 6) (Nat.le_of_ble_eq_true rfl) (Nat.le_of_ble_eq_true rfl) ?_
    exact W.vret hx hb hr (fun t9 ht9 hW9 => ⟨⟨rfl, c_1⟩, ht9⟩) (fun q hq => absurd hq List.not_mem_nil) dX0_needRoom_21
  · exact th_S (l := l) hx hb hl0 hown (by decide +kernel) (hts (.classLink RX0 127 ISE) (by decide +kernel)) (hts (.initialized ISE) (by decide +kernel)) (xS_153 hX.2.1) (fun w h => hts w (List.mem_cons_of_mem _ (List.mem_append_right _ h))) xn_ISE hX.2.2.2.2.1 xg_ISE hX (by rw [hml]; exact hl.1) dX0_needRoom_11 dX0_needRoom_14 dX0_needRoom_15 dX0_needRoom_17 dX0_needRoom_20 hno (Nat.le_of_ble_eq_true rfl) (Nat.le_of_ble_eq_true rfl) (Nat.le_of_ble_eq_true rfl) (Nat.le_of_ble_eq_true rfl) hlocks (⟨rfl, by omega⟩) (Nat.le_of_ble_eq_true rfl) (Nat.le_of_ble_eq_true rfl)
set_option maxHeartbeats 4000000 in
set_option maxRecDepth 100000 in
theorem c_X0_putNumber (l : Launch) (D : va_G) (h0 hn hd hq : Nat) (cZ cD cI : ClassId) (nb : Nat → Bool) (v : Nat → UInt64) (ln : Nat → Nat) (go : Bool) (mv : Int32) (hln : ∀ j, ln j ≤ 12) (sz : Nat) (q : Nat) (x : UInt64) (hq1 : q < 165) : Met l yX0_putNumber wsX0_putNumber ({ frames := 0, cells := 0, slots := 0, locals := 0 }) (va_Pc [.ref h0, .int (nI q), .double x] (fun U => U.heap.size = sz ∧ va_P D vwCl (WB h0 hn hd hq cZ cD cI nb v ln go mv) U.heap ∧ va_K D vwCl (TY cZ cD cI) U ∧ va_D (fun _ => True) (WB h0 hn hd hq cZ cD cI nb v ln go mv))) (wr_Qi (fun r => r = b2i (nb q)) (fun H => va_P D vwCl (WB h0 hn hd hq cZ cD cI (up nb q true) (up v q x) ln go mv) H) (va_A (WB h0 hn hd hq cZ cD cI nb v ln go mv) sz))  0 0 (va_A (WB h0 hn hd hq cZ cD cI nb v ln go mv) sz) := by
  refine Met.ofW (cc := cX0_putNumber) (maxL := 5) (ret := some .boolean) (by decide) rfl ?_
  intro p e s m args below meth c s₁ B hml hv
  obtain ⟨rfl, hsz_, hP, hK, hD0⟩ := hv
  have hx := B.exec
  have hb := B.bytes
  have hr := B.returns
  have hts := atoms_spec (ws := wsX0_putNumber) B.pre
  have hown : s.vm.findClass RX0 = some m.cls := findClass_of_methodNamed B.named
  have hlocks := B.notSynchronized
  subst hsz_
  have hD := hD0.self (sz := s.heap.size)
  generalize hAe : va_A (WB h0 hn hd hq cZ cD cI nb v ln go mv) s.heap.size = A at hD ⊢
  have hA : ∀ q : Nat, s.heap.size ≤ q → A q := fun q h => by rw [← hAe]; exact Or.inr h
  have hS : va_S A s.heap s.heap [] := va_S.rf
  have hl := lv_entry ([.ref h0, .int (nI q), .double x]) (n := 5) (Nat.le_of_ble_eq_true rfl)
  rw [lg_entry_eq]
  generalize (lg_sl ([.ref h0, .int (nI q), .double x]) ++ List.replicate (5 - (lg_sl ([.ref h0, .int (nI q), .double x])).length) Slot.unset).toArray = ls at hl ⊢
  have hl : lv_has ls 5 [(0, .ref h0), (1, .int (nI q)), (2, .double x)] := hl
  have hinRX0 : ∀ w ∈ wsX00, w ∈ wsX0_putNumber := by decide +kernel
  have hf_9 := hts (.fieldLink RX0 9 "HarbourBoard" "isNumber" "[Z") (by decide +kernel)
  have hf_13 := hts (.fieldLink RX0 13 "HarbourBoard" "numbers" "[D") (by decide +kernel)
  refine lv_aload_n hx hb dX0_putNumber_0 rfl (lv_at hl 0 rfl) ?_
  refine va_get (D := D) (ci := 1) (v := .ref hn) (C := RX0) (T := TX0) (N := 5) hx hb hts hinRX0 hown hK hP 0 rfl rfl 0 (by decide) hf_9 (fun _ h9 => h9) rfl dX0_putNumber_1 ?_
  refine lv_iload_n hx hb dX0_putNumber_4 rfl (lv_at hl 1 rfl) ?_
  refine kn_zald hx hb hK hP 1 0 rfl rfl (by omega) (by decide) dX0_putNumber_5 ?_
  refine lv_istore (lv' := [(4, .int (b2i (nb q))), (0, .ref h0), (1, .int (nI q)), (2, .double x)]) hx hb dX0_putNumber_6 hl (by decide) rfl (fun ls hl => ?_)
  refine lv_aload_n hx hb dX0_putNumber_8 rfl (lv_at hl 1 rfl) ?_
  refine va_get (D := D) (ci := 1) (v := .ref hn) (C := RX0) (T := TX0) (N := 5) hx hb hts hinRX0 hown hK hP 0 rfl rfl 0 (by decide) hf_9 (fun _ h9 => h9) rfl dX0_putNumber_9 ?_
  refine lv_iload_n hx hb dX0_putNumber_12 rfl (lv_at hl 2 rfl) ?_
  refine lv_iconst (v := nI 1) hx hb dX0_putNumber_13 (by decide) ?_
  refine kt_i (y := b2i true) rfl ?_
  refine kn_zast hx hb hK hP hD hS 1 0 rfl rfl (by omega) (by decide) dX0_putNumber_14 (fun H locs hP hD hS => ?_)
  have hP : va_P D vwCl (WB h0 hn hd hq cZ cD cI (up nb q true) v ln go mv) H := hP
  have hD : va_D A (WB h0 hn hd hq cZ cD cI (up nb q true) v ln go mv) := hD
  refine lv_aload_n hx hb dX0_putNumber_15 rfl (lv_at hl 1 rfl) ?_
  refine va_get (D := D) (ci := 1) (v := .ref hd) (C := RX0) (T := TX0) (N := 5) hx hb hts hinRX0 hown hK hP 0 rfl rfl 1 (by decide) hf_13 (fun _ h9 => h9) rfl dX0_putNumber_16 ?_
  refine lv_iload_n hx hb dX0_putNumber_19 rfl (lv_at hl 2 rfl) ?_
  refine lv_dload_n hx hb dX0_putNumber_20 rfl (lv_at hl 3 rfl) ?_
  refine kn_dast hx hb hK hP hD hS 2 1 rfl rfl (by omega) (by decide) dX0_putNumber_21 (fun H locs hP hD hS => ?_)
  have hP : va_P D vwCl (WB h0 hn hd hq cZ cD cI (up nb q true) (up v q x) ln go mv) H := hP
  have hD : va_D A (WB h0 hn hd hq cZ cD cI (up nb q true) (up v q x) ln go mv) := hD
  refine lv_iload hx hb dX0_putNumber_22 (lv_at hl 0 rfl) ?_
  refine W.widen (k := 0) (n := 0) (Nat.le_of_ble_eq_true rfl) (Nat.le_of_ble_eq_true rfl) ?_
  exact W.zret (v := b2i (nb q)) hx hb hr (b2i_nar _) (fun t9 ht9 hW9 => ⟨⟨_, rfl, rfl, by rw [ht9]; exact hP⟩, hS.F ht9⟩) hS.2.2 dX0_putNumber_24
set_option maxHeartbeats 4000000 in
set_option maxRecDepth 100000 in
theorem c_X0_putOut (l : Launch) (D : va_G) (h0 hn hd hq : Nat) (cZ cD cI : ClassId) (nb : Nat → Bool) (v : Nat → UInt64) (ln : Nat → Nat) (go : Bool) (mv : Int32) (hln : ∀ j, ln j ≤ 12) (sz : Nat) (q : Nat) (hq1 : q < 165) : Met l yX0_putOut wsX0_putOut ({ frames := 0, cells := 0, slots := 0, locals := 0 }) (va_Pc [.ref h0, .int (nI q)] (fun U => U.heap.size = sz ∧ va_P D vwCl (WB h0 hn hd hq cZ cD cI nb v ln go mv) U.heap ∧ va_K D vwCl (TY cZ cD cI) U ∧ va_D (fun _ => True) (WB h0 hn hd hq cZ cD cI nb v ln go mv))) (wr_Qi (fun r => r = b2i (nb q)) (fun H => va_P D vwCl (WB h0 hn hd hq cZ cD cI (up nb q false) v ln go mv) H) (va_A (WB h0 hn hd hq cZ cD cI nb v ln go mv) sz))  0 0 (va_A (WB h0 hn hd hq cZ cD cI nb v ln go mv) sz) := by
  refine Met.ofW (cc := cX0_putOut) (maxL := 3) (ret := some .boolean) (by decide) rfl ?_
  intro p e s m args below meth c s₁ B hml hv
  obtain ⟨rfl, hsz_, hP, hK, hD0⟩ := hv
  have hx := B.exec
  have hb := B.bytes
  have hr := B.returns
  have hts := atoms_spec (ws := wsX0_putOut) B.pre
  have hown : s.vm.findClass RX0 = some m.cls := findClass_of_methodNamed B.named
  have hlocks := B.notSynchronized
  subst hsz_
  have hD := hD0.self (sz := s.heap.size)
  generalize hAe : va_A (WB h0 hn hd hq cZ cD cI nb v ln go mv) s.heap.size = A at hD ⊢
  have hA : ∀ q : Nat, s.heap.size ≤ q → A q := fun q h => by rw [← hAe]; exact Or.inr h
  have hS : va_S A s.heap s.heap [] := va_S.rf
  have hl := lv_entry ([.ref h0, .int (nI q)]) (n := 3) (Nat.le_of_ble_eq_true rfl)
  rw [lg_entry_eq]
  generalize (lg_sl ([.ref h0, .int (nI q)]) ++ List.replicate (3 - (lg_sl ([.ref h0, .int (nI q)])).length) Slot.unset).toArray = ls at hl ⊢
  have hl : lv_has ls 3 [(0, .ref h0), (1, .int (nI q))] := hl
  have hinRX0 : ∀ w ∈ wsX00, w ∈ wsX0_putOut := by decide +kernel
  have hf_9 := hts (.fieldLink RX0 9 "HarbourBoard" "isNumber" "[Z") (by decide +kernel)
  refine lv_aload_n hx hb dX0_putOut_0 rfl (lv_at hl 0 rfl) ?_
  refine va_get (D := D) (ci := 1) (v := .ref hn) (C := RX0) (T := TX0) (N := 5) hx hb hts hinRX0 hown hK hP 0 rfl rfl 0 (by decide) hf_9 (fun _ h9 => h9) rfl dX0_putOut_1 ?_
  refine lv_iload_n hx hb dX0_putOut_4 rfl (lv_at hl 1 rfl) ?_
  refine kn_zald hx hb hK hP 1 0 rfl rfl (by omega) (by decide) dX0_putOut_5 ?_
  refine lv_istore_n (lv' := [(2, .int (b2i (nb q))), (0, .ref h0), (1, .int (nI q))]) hx hb dX0_putOut_6 rfl hl (by decide) rfl (fun ls hl => ?_)
  refine lv_aload_n hx hb dX0_putOut_7 rfl (lv_at hl 1 rfl) ?_
  refine va_get (D := D) (ci := 1) (v := .ref hn) (C := RX0) (T := TX0) (N := 5) hx hb hts hinRX0 hown hK hP 0 rfl rfl 0 (by decide) hf_9 (fun _ h9 => h9) rfl dX0_putOut_8 ?_
  refine lv_iload_n hx hb dX0_putOut_11 rfl (lv_at hl 2 rfl) ?_
  refine lv_iconst (v := nI 0) hx hb dX0_putOut_12 (by decide) ?_
  refine kt_i (y := b2i false) rfl ?_
  refine kn_zast hx hb hK hP hD hS 1 0 rfl rfl (by omega) (by decide) dX0_putOut_13 (fun H locs hP hD hS => ?_)
  have hP : va_P D vwCl (WB h0 hn hd hq cZ cD cI (up nb q false) v ln go mv) H := hP
  have hD : va_D A (WB h0 hn hd hq cZ cD cI (up nb q false) v ln go mv) := hD
  refine lv_iload_n hx hb dX0_putOut_14 rfl (lv_at hl 0 rfl) ?_
  refine W.widen (k := 0) (n := 0) (Nat.le_of_ble_eq_true rfl) (Nat.le_of_ble_eq_true rfl) ?_
  exact W.zret (v := b2i (nb q)) hx hb hr (b2i_nar _) (fun t9 ht9 hW9 => ⟨⟨_, rfl, rfl, by rw [ht9]; exact hP⟩, hS.F ht9⟩) hS.2.2 dX0_putOut_15
set_option maxHeartbeats 4000000 in
set_option maxRecDepth 100000 in
theorem c_X0_emptyStrip (l : Launch) (D : va_G) (h0 hn hd hq : Nat) (cZ cD cI : ClassId) (nb : Nat → Bool) (v : Nat → UInt64) (ln : Nat → Nat) (go : Bool) (mv : Int32) (hln : ∀ j, ln j ≤ 12) (sz : Nat) (t : Nat) (ht : t < 12) : Met l yX0_emptyStrip wsX0_emptyStrip ({ frames := 0, cells := 0, slots := 0, locals := 0 }) (va_Pc [.ref h0, .int (nI t)] (fun U => U.heap.size = sz ∧ va_P D vwCl (WB h0 hn hd hq cZ cD cI nb v ln go mv) U.heap ∧ va_K D vwCl (TY cZ cD cI) U ∧ va_D (fun _ => True) (WB h0 hn hd hq cZ cD cI nb v ln go mv))) (wr_Qi (fun r => r = nI (ln t)) (fun H => va_P D vwCl (WB h0 hn hd hq cZ cD cI nb v (up ln t 0) go mv) H) (va_A (WB h0 hn hd hq cZ cD cI nb v ln go mv) sz))  0 0 (va_A (WB h0 hn hd hq cZ cD cI nb v ln go mv) sz) := by
  refine Met.ofW (cc := cX0_emptyStrip) (maxL := 3) (ret := some .int) (by decide) rfl ?_
  intro p e s m args below meth c s₁ B hml hv
  obtain ⟨rfl, hsz_, hP, hK, hD0⟩ := hv
  have hx := B.exec
  have hb := B.bytes
  have hr := B.returns
  have hts := atoms_spec (ws := wsX0_emptyStrip) B.pre
  have hown : s.vm.findClass RX0 = some m.cls := findClass_of_methodNamed B.named
  have hlocks := B.notSynchronized
  subst hsz_
  have hD := hD0.self (sz := s.heap.size)
  generalize hAe : va_A (WB h0 hn hd hq cZ cD cI nb v ln go mv) s.heap.size = A at hD ⊢
  have hA : ∀ q : Nat, s.heap.size ≤ q → A q := fun q h => by rw [← hAe]; exact Or.inr h
  have hS : va_S A s.heap s.heap [] := va_S.rf
  have hl := lv_entry ([.ref h0, .int (nI t)]) (n := 3) (Nat.le_of_ble_eq_true rfl)
  rw [lg_entry_eq]
  generalize (lg_sl ([.ref h0, .int (nI t)]) ++ List.replicate (3 - (lg_sl ([.ref h0, .int (nI t)])).length) Slot.unset).toArray = ls at hl ⊢
  have hl : lv_has ls 3 [(0, .ref h0), (1, .int (nI t))] := hl
  have hinRX0 : ∀ w ∈ wsX00, w ∈ wsX0_emptyStrip := by decide +kernel
  have hf_17 := hts (.fieldLink RX0 17 "HarbourBoard" "lengths" "[I") (by decide +kernel)
  refine lv_aload_n hx hb dX0_emptyStrip_0 rfl (lv_at hl 0 rfl) ?_
  refine va_get (D := D) (ci := 1) (v := .ref hq) (C := RX0) (T := TX0) (N := 5) hx hb hts hinRX0 hown hK hP 0 rfl rfl 2 (by decide) hf_17 (fun _ h9 => h9) rfl dX0_emptyStrip_1 ?_
  refine lv_iload_n hx hb dX0_emptyStrip_4 rfl (lv_at hl 1 rfl) ?_
  refine kn_iald hx hb hK hP 3 2 rfl rfl (by omega) (by decide) dX0_emptyStrip_5 ?_
  refine lv_istore_n (lv' := [(2, .int (nI (ln t))), (0, .ref h0), (1, .int (nI t))]) hx hb dX0_emptyStrip_6 rfl hl (by decide) rfl (fun ls hl => ?_)
  refine lv_aload_n hx hb dX0_emptyStrip_7 rfl (lv_at hl 1 rfl) ?_
  refine va_get (D := D) (ci := 1) (v := .ref hq) (C := RX0) (T := TX0) (N := 5) hx hb hts hinRX0 hown hK hP 0 rfl rfl 2 (by decide) hf_17 (fun _ h9 => h9) rfl dX0_emptyStrip_8 ?_
  refine lv_iload_n hx hb dX0_emptyStrip_11 rfl (lv_at hl 2 rfl) ?_
  refine lv_iconst (v := nI 0) hx hb dX0_emptyStrip_12 (by decide) ?_
  refine kn_iast hx hb hK hP hD hS 3 2 rfl rfl (by omega) (by decide) dX0_emptyStrip_13 (fun H locs hP hD hS => ?_)
  have hP : va_P D vwCl (WB h0 hn hd hq cZ cD cI nb v (up ln t 0) go mv) H := hP
  have hD : va_D A (WB h0 hn hd hq cZ cD cI nb v (up ln t 0) go mv) := hD
  refine lv_iload_n hx hb dX0_emptyStrip_14 rfl (lv_at hl 0 rfl) ?_
  refine W.widen (k := 0) (n := 0) (Nat.le_of_ble_eq_true rfl) (Nat.le_of_ble_eq_true rfl) ?_
  exact W.iret (v := nI (ln t)) hx hb hr (fun t9 ht9 hW9 => ⟨⟨_, rfl, rfl, by rw [ht9]; exact hP⟩, hS.F ht9⟩) hS.2.2 dX0_emptyStrip_15
set_option maxHeartbeats 4000000 in
set_option maxRecDepth 100000 in
theorem c_X0_appendNumber_x (l : Launch) (D : va_G) (h0 hn hd hq : Nat) (cZ cD cI : ClassId) (nb : Nat → Bool) (v : Nat → UInt64) (ln : Nat → Nat) (go : Bool) (mv : Int32) (hln : ∀ j, ln j ≤ 12) (hl0 : l.stackTraces = false) (sz : Nat) (t : Nat) (x : UInt64) (ht : t < 12) (hrm : ln t < 12) : vx_Met l yX0_appendNumber wsX0_appendNumber ({ frames := 7, cells := 1, slots := 6, locals := 103 }) (va_Pc [.ref h0, .int (nI t), .double x] (fun U => xOK U ∧ U.heap.size = sz ∧ va_P D vwCl (WB h0 hn hd hq cZ cD cI nb v ln go mv) U.heap ∧ va_K D vwCl (TY cZ cD cI) U ∧ va_D (fun _ => True) (WB h0 hn hd hq cZ cD cI nb v ln go mv))) (wr_Qi (fun r => r = nI (ln t + 1)) (fun H => va_P D vwCl (WB h0 hn hd hq cZ cD cI (up nb (t * 12 + ln t) true) (up v (t * 12 + ln t) x) (up ln t (ln t + 1)) go mv) H) (va_A (WB h0 hn hd hq cZ cD cI nb v ln go mv) sz)) (rd_X (fun E => False)) 1 6 (va_A (WB h0 hn hd hq cZ cD cI nb v ln go mv) sz) := by
  refine vx_ofW (cc := cX0_appendNumber) (maxL := 4) (ret := some .int) (by decide) rfl ?_
  intro p e s m args below meth c s₁ B hml hno hv
  obtain ⟨rfl, hX, hsz_, hP, hK, hD0⟩ := hv
  have hx := B.exec
  have hb := B.bytes
  have hr := B.returns
  have hts := atoms_spec (ws := wsX0_appendNumber) B.pre
  have hown : s.vm.findClass RX0 = some m.cls := findClass_of_methodNamed B.named
  have hlocks := B.notSynchronized
  subst hsz_
  have hD := hD0.self (sz := s.heap.size)
  generalize hAe : va_A (WB h0 hn hd hq cZ cD cI nb v ln go mv) s.heap.size = A at hD ⊢
  have hA : ∀ q : Nat, s.heap.size ≤ q → A q := fun q h => by rw [← hAe]; exact Or.inr h
  have hS : va_S A s.heap s.heap [] := va_S.rf
  have hl := lv_entry ([.ref h0, .int (nI t), .double x]) (n := 4) (Nat.le_of_ble_eq_true rfl)
  rw [lg_entry_eq]
  generalize (lg_sl ([.ref h0, .int (nI t), .double x]) ++ List.replicate (4 - (lg_sl ([.ref h0, .int (nI t), .double x])).length) Slot.unset).toArray = ls at hl ⊢
  have hl : lv_has ls 4 [(0, .ref h0), (1, .int (nI t)), (2, .double x)] := hl
  have hinRX0 : ∀ w ∈ wsX00, w ∈ wsX0_appendNumber := by decide +kernel
  have hf_17 := hts (.fieldLink RX0 17 "HarbourBoard" "lengths" "[I") (by decide +kernel)
  have h1 := hln t
  refine lv_aload_n hx hb dX0_appendNumber_0 rfl (lv_at hl 0 rfl) ?_
  refine lv_iload_n hx hb dX0_appendNumber_1 rfl (lv_at hl 1 rfl) ?_
  refine kx_callv (vx_runV (As := [.int (nI t)]) (rest := []) ⟨hx, hb, hml, hown, hts⟩ (c_X0_needRoom l D h0 hn hd hq cZ cD cI nb v ln go mv hln hl0 t (by omega)) (cwV 1 hts gX0_appendNumber_X0_needRoom rfl rfl rfl (by decide +kernel) ⟨Nat.le_of_ble_eq_true rfl, Nat.le_of_ble_eq_true rfl⟩) ⟨fun a U g mk q => ⟨q.1, xOK_call q.2.1 g mk a, q.2.2.1, va_K.moved (u := U) (U := U.calling g mk a) (Vm.Alike.refl U.vm) q.2.2.2⟩, va_recv hK hP (ci := 1) (q0 := 0) rfl rfl, fun U hU hW => ⟨rfl, xOK_at hX hU hW, by rw [hU]; exact hP, va_K.moved hW.alike hK⟩⟩ rfl rfl hl.1 rfl (lv_room (Nat.le_of_ble_eq_true rfl)) dX0_appendNumber_2 ⟨Nat.le_of_ble_eq_true rfl, Nat.le_of_ble_eq_true rfl⟩) hno hlocks (fun E hE => absurd hE.2 (by omega)) (Nat.le_of_ble_eq_true rfl) (Nat.le_of_ble_eq_true rfl) (fun h_1 => ?_)
  refine lv_aload_n hx hb dX0_appendNumber_5 rfl (lv_at hl 0 rfl) ?_
  refine lv_iload_n hx hb dX0_appendNumber_6 rfl (lv_at hl 1 rfl) ?_
  refine lv_aload_n hx hb dX0_appendNumber_7 rfl (lv_at hl 0 rfl) ?_
  refine va_get (D := D) (ci := 1) (v := .ref hq) (C := RX0) (T := TX0) (N := 5) hx hb hts hinRX0 hown hK hP 0 rfl rfl 2 (by decide) hf_17 (fun _ h9 => h9) rfl dX0_appendNumber_8 ?_
  refine lv_iload_n hx hb dX0_appendNumber_11 rfl (lv_at hl 1 rfl) ?_
  refine kn_iald hx hb hK hP 3 2 rfl rfl (by omega) (by decide) dX0_appendNumber_12 ?_
  refine rd_calli (va_runS (As := [.int (nI t), .int (nI (ln t))]) (rest := [.ref h0]) ⟨hx, hb, hml, hown, hts⟩ (c_X0_stripPlace l t (ln t) ) (va_cwS 2 hts gX0_appendNumber_X0_stripPlace rfl rfl rfl (by decide +kernel) ⟨Nat.le_of_ble_eq_true rfl, Nat.le_of_ble_eq_true rfl⟩) ⟨fun a U g mk q => q, fun U hU hW => ⟨rfl, trivial⟩⟩ rfl rfl hl.1 rfl (lv_room (Nat.le_of_ble_eq_true rfl)) dX0_appendNumber_13 ⟨Nat.le_of_ble_eq_true rfl, Nat.le_of_ble_eq_true rfl⟩) (fun r_2 hr_2 => ?_)
  subst hr_2
  refine lv_dload_n hx hb dX0_appendNumber_16 rfl (lv_at hl 2 rfl) ?_
  have hFc := va_free (wc := WB h0 hn hd hq cZ cD cI nb v ln go mv) hD hS hA [0, 1, 2, 3] rfl
  refine wr_calli (va_runV (As := [.int (nI (t * 12 + (ln t))), .double x]) (rest := []) ⟨hx, hb, hml, hown, hts⟩ (c_X0_putNumber l D h0 hn hd hq cZ cD cI nb v ln go mv hln s.heap.size (t * 12 + (ln t)) x (by omega)) (cwV 2 hts gX0_appendNumber_X0_putNumber rfl rfl rfl (by decide +kernel) ⟨Nat.le_of_ble_eq_true rfl, Nat.le_of_ble_eq_true rfl⟩) ⟨fun a U g mk q => ⟨q.1, q.2.1, q.2.2.1, va_K.moved (u := U) (U := U.calling g mk a) (Vm.Alike.refl U.vm) q.2.2.2.1, q.2.2.2.2⟩, va_recv hK hP (ci := 1) (q0 := 0) rfl rfl, fun U hU hW => ⟨rfl, by rw [hU], by rw [hU]; exact hP, va_K.moved hW.alike hK, hD.weaken (fun _ _ _ _ => trivial)⟩⟩ rfl rfl hl.1 rfl (lv_room (Nat.le_of_ble_eq_true rfl)) dX0_appendNumber_17 ⟨Nat.le_of_ble_eq_true rfl, Nat.le_of_ble_eq_true rfl⟩) hS hFc (fun r_3 H locs hr_3 hP _ _ hS => ?_)
  subst hr_3
  have hD : va_D A (WB h0 hn hd hq cZ cD cI (up nb (t * 12 + (ln t)) true) (up v (t * 12 + (ln t)) x) ln go mv) := va_D_same (ws := WB h0 hn hd hq cZ cD cI nb v ln go mv) rfl hD
  have hP : va_P D vwCl (WB h0 hn hd hq cZ cD cI (up nb (t * 12 + (ln t)) true) (up v (t * 12 + (ln t)) x) ln go mv) H := hP
  refine lv_pop hx hb dX0_appendNumber_20 rfl ?_
  refine lv_aload_n hx hb dX0_appendNumber_21 rfl (lv_at hl 0 rfl) ?_
  refine va_get (D := D) (ci := 1) (v := .ref hq) (C := RX0) (T := TX0) (N := 5) hx hb hts hinRX0 hown hK hP 0 rfl rfl 2 (by decide) hf_17 (fun _ h9 => h9) rfl dX0_appendNumber_22 ?_
  refine lv_iload_n hx hb dX0_appendNumber_25 rfl (lv_at hl 1 rfl) ?_
  refine lv_dup2_11 hx hb dX0_appendNumber_26 rfl rfl ?_
  refine kn_iald hx hb hK hP 3 2 rfl rfl (by omega) (by decide) dX0_appendNumber_27 ?_
  refine lv_iconst (v := nI 1) hx hb dX0_appendNumber_28 (by decide) ?_
  refine kn_iadd hx hb dX0_appendNumber_29 ?_
  refine kn_iast hx hb hK hP hD hS 3 2 rfl rfl (by omega) (by decide) dX0_appendNumber_30 (fun H locs hP hD hS => ?_)
  have hP : va_P D vwCl (WB h0 hn hd hq cZ cD cI (up nb (t * 12 + (ln t)) true) (up v (t * 12 + (ln t)) x) (up ln t ((ln t) + 1)) go mv) H := hP
  have hD : va_D A (WB h0 hn hd hq cZ cD cI (up nb (t * 12 + (ln t)) true) (up v (t * 12 + (ln t)) x) (up ln t ((ln t) + 1)) go mv) := hD
  refine lv_aload_n hx hb dX0_appendNumber_31 rfl (lv_at hl 0 rfl) ?_
  refine va_get (D := D) (ci := 1) (v := .ref hq) (C := RX0) (T := TX0) (N := 5) hx hb hts hinRX0 hown hK hP 0 rfl rfl 2 (by decide) hf_17 (fun _ h9 => h9) rfl dX0_appendNumber_32 ?_
  refine lv_iload_n hx hb dX0_appendNumber_35 rfl (lv_at hl 1 rfl) ?_
  refine kn_iald hx hb hK hP 3 2 rfl rfl (by omega) (by decide) dX0_appendNumber_36 ?_
  refine vx_ret ?_
  refine W.widen (k := 1) (n := 6) (Nat.le_of_ble_eq_true rfl) (Nat.le_of_ble_eq_true rfl) ?_
  exact W.iret (v := nI ((up ln t ((ln t) + 1)) t)) hx hb hr (fun t9 ht9 hW9 => ⟨⟨_, rfl, congrArg nI (up_s _ _ _), by rw [ht9]; exact hP⟩, hS.F ht9⟩) hS.2.2 dX0_appendNumber_37
theorem c_X0_appendNumber (l : Launch) (D : va_G) (h0 hn hd hq : Nat) (cZ cD cI : ClassId) (nb : Nat → Bool) (v : Nat → UInt64) (ln : Nat → Nat) (go : Bool) (mv : Int32) (hln : ∀ j, ln j ≤ 12) (hl0 : l.stackTraces = false) (sz : Nat) (t : Nat) (x : UInt64) (ht : t < 12) (hrm : ln t < 12) : Met l yX0_appendNumber wsX0_appendNumber ({ frames := 7, cells := 1, slots := 6, locals := 103 }) (va_Pc [.ref h0, .int (nI t), .double x] (fun U => xOK U ∧ U.heap.size = sz ∧ va_P D vwCl (WB h0 hn hd hq cZ cD cI nb v ln go mv) U.heap ∧ va_K D vwCl (TY cZ cD cI) U ∧ va_D (fun _ => True) (WB h0 hn hd hq cZ cD cI nb v ln go mv))) (wr_Qi (fun r => r = nI (ln t + 1)) (fun H => va_P D vwCl (WB h0 hn hd hq cZ cD cI (up nb (t * 12 + ln t) true) (up v (t * 12 + ln t) x) (up ln t (ln t + 1)) go mv) H) (va_A (WB h0 hn hd hq cZ cD cI nb v ln go mv) sz)) 1 6 (va_A (WB h0 hn hd hq cZ cD cI nb v ln go mv) sz) := met_of_ok (c_X0_appendNumber_x l D h0 hn hd hq cZ cD cI nb v ln go mv hln hl0 sz t x ht hrm)
set_option maxHeartbeats 4000000 in
set_option maxRecDepth 100000 in
theorem c_X0_appendNumber_full (l : Launch) (D : va_G) (h0 hn hd hq : Nat) (cZ cD cI : ClassId) (nb : Nat → Bool) (v : Nat → UInt64) (ln : Nat → Nat) (go : Bool) (mv : Int32) (hln : ∀ j, ln j ≤ 12) (hl0 : l.stackTraces = false) (t : Nat) (x : UInt64) (ht : t < 12) (hfull : ln t = 12) : vx_Met l yX0_appendNumber wsX0_appendNumber ({ frames := 7, cells := 1, slots := 6, locals := 103 }) (va_Pc [.ref h0, .int (nI t), .double x] (fun U => xOK U ∧ va_P D vwCl (WB h0 hn hd hq cZ cD cI nb v ln go mv) U.heap ∧ va_K D vwCl (TY cZ cD cI) U)) (fun _ _ _ _ => False) (rd_X (fun E => E = ISE)) 1 6 (fun _ => False) := by
  refine vx_ofW (cc := cX0_appendNumber) (maxL := 4) (ret := some .int) (by decide) rfl ?_
  intro p e s m args below meth c s₁ B hml hno hv
  obtain ⟨rfl, hX, hP, hK⟩ := hv
  have hx := B.exec
  have hb := B.bytes
  have hr := B.returns
  have hts := atoms_spec (ws := wsX0_appendNumber) B.pre
  have hown : s.vm.findClass RX0 = some m.cls := findClass_of_methodNamed B.named
  have hlocks := B.notSynchronized
  have hl := lv_entry ([.ref h0, .int (nI t), .double x]) (n := 4) (Nat.le_of_ble_eq_true rfl)
  rw [lg_entry_eq]
  generalize (lg_sl ([.ref h0, .int (nI t), .double x]) ++ List.replicate (4 - (lg_sl ([.ref h0, .int (nI t), .double x])).length) Slot.unset).toArray = ls at hl ⊢
  have hl : lv_has ls 4 [(0, .ref h0), (1, .int (nI t)), (2, .double x)] := hl
  have h1 := hln t
  refine lv_aload_n hx hb dX0_appendNumber_0 rfl (lv_at hl 0 rfl) ?_
  refine lv_iload_n hx hb dX0_appendNumber_1 rfl (lv_at hl 1 rfl) ?_
  refine kx_callv (vx_runV (As := [.int (nI t)]) (rest := []) ⟨hx, hb, hml, hown, hts⟩ (c_X0_needRoom l D h0 hn hd hq cZ cD cI nb v ln go mv hln hl0 t (by omega)) (cwV 1 hts gX0_appendNumber_X0_needRoom rfl rfl rfl (by decide +kernel) ⟨Nat.le_of_ble_eq_true rfl, Nat.le_of_ble_eq_true rfl⟩) ⟨fun a U g mk q => ⟨q.1, xOK_call q.2.1 g mk a, q.2.2.1, va_K.moved (u := U) (U := U.calling g mk a) (Vm.Alike.refl U.vm) q.2.2.2⟩, va_recv hK hP (ci := 1) (q0 := 0) rfl rfl, fun U hU hW => ⟨rfl, xOK_at hX hU hW, by rw [hU]; exact hP, va_K.moved hW.alike hK⟩⟩ rfl rfl hl.1 rfl (lv_room (Nat.le_of_ble_eq_true rfl)) dX0_appendNumber_2 ⟨Nat.le_of_ble_eq_true rfl, Nat.le_of_ble_eq_true rfl⟩) hno hlocks (fun E hE => hE.1) (Nat.le_of_ble_eq_true rfl) (Nat.le_of_ble_eq_true rfl) (fun h_1 => ?_)
  exact absurd h_1 (by omega)
set_option maxHeartbeats 4000000 in
set_option maxRecDepth 100000 in
theorem c_X0_appendOut_x (l : Launch) (D : va_G) (h0 hn hd hq : Nat) (cZ cD cI : ClassId) (nb : Nat → Bool) (v : Nat → UInt64) (ln : Nat → Nat) (go : Bool) (mv : Int32) (hln : ∀ j, ln j ≤ 12) (hl0 : l.stackTraces = false) (sz : Nat) (t : Nat) (ht : t < 12) (hrm : ln t < 12) : vx_Met l yX0_appendOut wsX0_appendOut ({ frames := 7, cells := 1, slots := 6, locals := 103 }) (va_Pc [.ref h0, .int (nI t)] (fun U => xOK U ∧ U.heap.size = sz ∧ va_P D vwCl (WB h0 hn hd hq cZ cD cI nb v ln go mv) U.heap ∧ va_K D vwCl (TY cZ cD cI) U ∧ va_D (fun _ => True) (WB h0 hn hd hq cZ cD cI nb v ln go mv))) (wr_Qi (fun r => r = nI (ln t + 1)) (fun H => va_P D vwCl (WB h0 hn hd hq cZ cD cI (up nb (t * 12 + ln t) false) v (up ln t (ln t + 1)) go mv) H) (va_A (WB h0 hn hd hq cZ cD cI nb v ln go mv) sz)) (rd_X (fun E => False)) 1 6 (va_A (WB h0 hn hd hq cZ cD cI nb v ln go mv) sz) := by
  refine vx_ofW (cc := cX0_appendOut) (maxL := 2) (ret := some .int) (by decide) rfl ?_
  intro p e s m args below meth c s₁ B hml hno hv
  obtain ⟨rfl, hX, hsz_, hP, hK, hD0⟩ := hv
  have hx := B.exec
  have hb := B.bytes
  have hr := B.returns
  have hts := atoms_spec (ws := wsX0_appendOut) B.pre
  have hown : s.vm.findClass RX0 = some m.cls := findClass_of_methodNamed B.named
  have hlocks := B.notSynchronized
  subst hsz_
  have hD := hD0.self (sz := s.heap.size)
  generalize hAe : va_A (WB h0 hn hd hq cZ cD cI nb v ln go mv) s.heap.size = A at hD ⊢
  have hA : ∀ q : Nat, s.heap.size ≤ q → A q := fun q h => by rw [← hAe]; exact Or.inr h
  have hS : va_S A s.heap s.heap [] := va_S.rf
  have hl := lv_entry ([.ref h0, .int (nI t)]) (n := 2) (Nat.le_of_ble_eq_true rfl)
  rw [lg_entry_eq]
  generalize (lg_sl ([.ref h0, .int (nI t)]) ++ List.replicate (2 - (lg_sl ([.ref h0, .int (nI t)])).length) Slot.unset).toArray = ls at hl ⊢
  have hl : lv_has ls 2 [(0, .ref h0), (1, .int (nI t))] := hl
  have hinRX0 : ∀ w ∈ wsX00, w ∈ wsX0_appendOut := by decide +kernel
  have hf_17 := hts (.fieldLink RX0 17 "HarbourBoard" "lengths" "[I") (by decide +kernel)
  have h1 := hln t
  refine lv_aload_n hx hb dX0_appendOut_0 rfl (lv_at hl 0 rfl) ?_
  refine lv_iload_n hx hb dX0_appendOut_1 rfl (lv_at hl 1 rfl) ?_
  refine kx_callv (vx_runV (As := [.int (nI t)]) (rest := []) ⟨hx, hb, hml, hown, hts⟩ (c_X0_needRoom l D h0 hn hd hq cZ cD cI nb v ln go mv hln hl0 t (by omega)) (cwV 1 hts gX0_appendOut_X0_needRoom rfl rfl rfl (by decide +kernel) ⟨Nat.le_of_ble_eq_true rfl, Nat.le_of_ble_eq_true rfl⟩) ⟨fun a U g mk q => ⟨q.1, xOK_call q.2.1 g mk a, q.2.2.1, va_K.moved (u := U) (U := U.calling g mk a) (Vm.Alike.refl U.vm) q.2.2.2⟩, va_recv hK hP (ci := 1) (q0 := 0) rfl rfl, fun U hU hW => ⟨rfl, xOK_at hX hU hW, by rw [hU]; exact hP, va_K.moved hW.alike hK⟩⟩ rfl rfl hl.1 rfl (lv_room (Nat.le_of_ble_eq_true rfl)) dX0_appendOut_2 ⟨Nat.le_of_ble_eq_true rfl, Nat.le_of_ble_eq_true rfl⟩) hno hlocks (fun E hE => absurd hE.2 (by omega)) (Nat.le_of_ble_eq_true rfl) (Nat.le_of_ble_eq_true rfl) (fun h_1 => ?_)
  refine lv_aload_n hx hb dX0_appendOut_5 rfl (lv_at hl 0 rfl) ?_
  refine lv_iload_n hx hb dX0_appendOut_6 rfl (lv_at hl 1 rfl) ?_
  refine lv_aload_n hx hb dX0_appendOut_7 rfl (lv_at hl 0 rfl) ?_
  refine va_get (D := D) (ci := 1) (v := .ref hq) (C := RX0) (T := TX0) (N := 5) hx hb hts hinRX0 hown hK hP 0 rfl rfl 2 (by decide) hf_17 (fun _ h9 => h9) rfl dX0_appendOut_8 ?_
  refine lv_iload_n hx hb dX0_appendOut_11 rfl (lv_at hl 1 rfl) ?_
  refine kn_iald hx hb hK hP 3 2 rfl rfl (by omega) (by decide) dX0_appendOut_12 ?_
  refine rd_calli (va_runS (As := [.int (nI t), .int (nI (ln t))]) (rest := [.ref h0]) ⟨hx, hb, hml, hown, hts⟩ (c_X0_stripPlace l t (ln t) ) (va_cwS 2 hts gX0_appendOut_X0_stripPlace rfl rfl rfl (by decide +kernel) ⟨Nat.le_of_ble_eq_true rfl, Nat.le_of_ble_eq_true rfl⟩) ⟨fun a U g mk q => q, fun U hU hW => ⟨rfl, trivial⟩⟩ rfl rfl hl.1 rfl (lv_room (Nat.le_of_ble_eq_true rfl)) dX0_appendOut_13 ⟨Nat.le_of_ble_eq_true rfl, Nat.le_of_ble_eq_true rfl⟩) (fun r_2 hr_2 => ?_)
  subst hr_2
  have hFc := va_free (wc := WB h0 hn hd hq cZ cD cI nb v ln go mv) hD hS hA [0, 1, 2, 3] rfl
  refine wr_calli (va_runV (As := [.int (nI (t * 12 + (ln t)))]) (rest := []) ⟨hx, hb, hml, hown, hts⟩ (c_X0_putOut l D h0 hn hd hq cZ cD cI nb v ln go mv hln s.heap.size (t * 12 + (ln t)) (by omega)) (cwV 1 hts gX0_appendOut_X0_putOut rfl rfl rfl (by decide +kernel) ⟨Nat.le_of_ble_eq_true rfl, Nat.le_of_ble_eq_true rfl⟩) ⟨fun a U g mk q => ⟨q.1, q.2.1, q.2.2.1, va_K.moved (u := U) (U := U.calling g mk a) (Vm.Alike.refl U.vm) q.2.2.2.1, q.2.2.2.2⟩, va_recv hK hP (ci := 1) (q0 := 0) rfl rfl, fun U hU hW => ⟨rfl, by rw [hU], by rw [hU]; exact hP, va_K.moved hW.alike hK, hD.weaken (fun _ _ _ _ => trivial)⟩⟩ rfl rfl hl.1 rfl (lv_room (Nat.le_of_ble_eq_true rfl)) dX0_appendOut_16 ⟨Nat.le_of_ble_eq_true rfl, Nat.le_of_ble_eq_true rfl⟩) hS hFc (fun r_3 H locs hr_3 hP _ _ hS => ?_)
  subst hr_3
  have hD : va_D A (WB h0 hn hd hq cZ cD cI (up nb (t * 12 + (ln t)) false) v ln go mv) := va_D_same (ws := WB h0 hn hd hq cZ cD cI nb v ln go mv) rfl hD
  have hP : va_P D vwCl (WB h0 hn hd hq cZ cD cI (up nb (t * 12 + (ln t)) false) v ln go mv) H := hP
  refine lv_pop hx hb dX0_appendOut_19 rfl ?_
  refine lv_aload_n hx hb dX0_appendOut_20 rfl (lv_at hl 0 rfl) ?_
  refine va_get (D := D) (ci := 1) (v := .ref hq) (C := RX0) (T := TX0) (N := 5) hx hb hts hinRX0 hown hK hP 0 rfl rfl 2 (by decide) hf_17 (fun _ h9 => h9) rfl dX0_appendOut_21 ?_
  refine lv_iload_n hx hb dX0_appendOut_24 rfl (lv_at hl 1 rfl) ?_
  refine lv_dup2_11 hx hb dX0_appendOut_25 rfl rfl ?_
  refine kn_iald hx hb hK hP 3 2 rfl rfl (by omega) (by decide) dX0_appendOut_26 ?_
  refine lv_iconst (v := nI 1) hx hb dX0_appendOut_27 (by decide) ?_
  refine kn_iadd hx hb dX0_appendOut_28 ?_
  refine kn_iast hx hb hK hP hD hS 3 2 rfl rfl (by omega) (by decide) dX0_appendOut_29 (fun H locs hP hD hS => ?_)
  have hP : va_P D vwCl (WB h0 hn hd hq cZ cD cI (up nb (t * 12 + (ln t)) false) v (up ln t ((ln t) + 1)) go mv) H := hP
  have hD : va_D A (WB h0 hn hd hq cZ cD cI (up nb (t * 12 + (ln t)) false) v (up ln t ((ln t) + 1)) go mv) := hD
  refine lv_aload_n hx hb dX0_appendOut_30 rfl (lv_at hl 0 rfl) ?_
  refine va_get (D := D) (ci := 1) (v := .ref hq) (C := RX0) (T := TX0) (N := 5) hx hb hts hinRX0 hown hK hP 0 rfl rfl 2 (by decide) hf_17 (fun _ h9 => h9) rfl dX0_appendOut_31 ?_
  refine lv_iload_n hx hb dX0_appendOut_34 rfl (lv_at hl 1 rfl) ?_
  refine kn_iald hx hb hK hP 3 2 rfl rfl (by omega) (by decide) dX0_appendOut_35 ?_
  refine vx_ret ?_
  refine W.widen (k := 1) (n := 6) (Nat.le_of_ble_eq_true rfl) (Nat.le_of_ble_eq_true rfl) ?_
  exact W.iret (v := nI ((up ln t ((ln t) + 1)) t)) hx hb hr (fun t9 ht9 hW9 => ⟨⟨_, rfl, congrArg nI (up_s _ _ _), by rw [ht9]; exact hP⟩, hS.F ht9⟩) hS.2.2 dX0_appendOut_36
theorem c_X0_appendOut (l : Launch) (D : va_G) (h0 hn hd hq : Nat) (cZ cD cI : ClassId) (nb : Nat → Bool) (v : Nat → UInt64) (ln : Nat → Nat) (go : Bool) (mv : Int32) (hln : ∀ j, ln j ≤ 12) (hl0 : l.stackTraces = false) (sz : Nat) (t : Nat) (ht : t < 12) (hrm : ln t < 12) : Met l yX0_appendOut wsX0_appendOut ({ frames := 7, cells := 1, slots := 6, locals := 103 }) (va_Pc [.ref h0, .int (nI t)] (fun U => xOK U ∧ U.heap.size = sz ∧ va_P D vwCl (WB h0 hn hd hq cZ cD cI nb v ln go mv) U.heap ∧ va_K D vwCl (TY cZ cD cI) U ∧ va_D (fun _ => True) (WB h0 hn hd hq cZ cD cI nb v ln go mv))) (wr_Qi (fun r => r = nI (ln t + 1)) (fun H => va_P D vwCl (WB h0 hn hd hq cZ cD cI (up nb (t * 12 + ln t) false) v (up ln t (ln t + 1)) go mv) H) (va_A (WB h0 hn hd hq cZ cD cI nb v ln go mv) sz)) 1 6 (va_A (WB h0 hn hd hq cZ cD cI nb v ln go mv) sz) := met_of_ok (c_X0_appendOut_x l D h0 hn hd hq cZ cD cI nb v ln go mv hln hl0 sz t ht hrm)
set_option maxHeartbeats 4000000 in
set_option maxRecDepth 100000 in
theorem c_X0_appendOut_full (l : Launch) (D : va_G) (h0 hn hd hq : Nat) (cZ cD cI : ClassId) (nb : Nat → Bool) (v : Nat → UInt64) (ln : Nat → Nat) (go : Bool) (mv : Int32) (hln : ∀ j, ln j ≤ 12) (hl0 : l.stackTraces = false) (t : Nat) (ht : t < 12) (hfull : ln t = 12) : vx_Met l yX0_appendOut wsX0_appendOut ({ frames := 7, cells := 1, slots := 6, locals := 103 }) (va_Pc [.ref h0, .int (nI t)] (fun U => xOK U ∧ va_P D vwCl (WB h0 hn hd hq cZ cD cI nb v ln go mv) U.heap ∧ va_K D vwCl (TY cZ cD cI) U)) (fun _ _ _ _ => False) (rd_X (fun E => E = ISE)) 1 6 (fun _ => False) := by
  refine vx_ofW (cc := cX0_appendOut) (maxL := 2) (ret := some .int) (by decide) rfl ?_
  intro p e s m args below meth c s₁ B hml hno hv
  obtain ⟨rfl, hX, hP, hK⟩ := hv
  have hx := B.exec
  have hb := B.bytes
  have hr := B.returns
  have hts := atoms_spec (ws := wsX0_appendOut) B.pre
  have hown : s.vm.findClass RX0 = some m.cls := findClass_of_methodNamed B.named
  have hlocks := B.notSynchronized
  have hl := lv_entry ([.ref h0, .int (nI t)]) (n := 2) (Nat.le_of_ble_eq_true rfl)
  rw [lg_entry_eq]
  generalize (lg_sl ([.ref h0, .int (nI t)]) ++ List.replicate (2 - (lg_sl ([.ref h0, .int (nI t)])).length) Slot.unset).toArray = ls at hl ⊢
  have hl : lv_has ls 2 [(0, .ref h0), (1, .int (nI t))] := hl
  have h1 := hln t
  refine lv_aload_n hx hb dX0_appendOut_0 rfl (lv_at hl 0 rfl) ?_
  refine lv_iload_n hx hb dX0_appendOut_1 rfl (lv_at hl 1 rfl) ?_
  refine kx_callv (vx_runV (As := [.int (nI t)]) (rest := []) ⟨hx, hb, hml, hown, hts⟩ (c_X0_needRoom l D h0 hn hd hq cZ cD cI nb v ln go mv hln hl0 t (by omega)) (cwV 1 hts gX0_appendOut_X0_needRoom rfl rfl rfl (by decide +kernel) ⟨Nat.le_of_ble_eq_true rfl, Nat.le_of_ble_eq_true rfl⟩) ⟨fun a U g mk q => ⟨q.1, xOK_call q.2.1 g mk a, q.2.2.1, va_K.moved (u := U) (U := U.calling g mk a) (Vm.Alike.refl U.vm) q.2.2.2⟩, va_recv hK hP (ci := 1) (q0 := 0) rfl rfl, fun U hU hW => ⟨rfl, xOK_at hX hU hW, by rw [hU]; exact hP, va_K.moved hW.alike hK⟩⟩ rfl rfl hl.1 rfl (lv_room (Nat.le_of_ble_eq_true rfl)) dX0_appendOut_2 ⟨Nat.le_of_ble_eq_true rfl, Nat.le_of_ble_eq_true rfl⟩) hno hlocks (fun E hE => hE.1) (Nat.le_of_ble_eq_true rfl) (Nat.le_of_ble_eq_true rfl) (fun h_1 => ?_)
  exact absurd h_1 (by omega)
set_option maxHeartbeats 4000000 in
set_option maxRecDepth 100000 in
theorem c_X0_extremePlace_x (l : Launch) (D : va_G) (h0 hn hd hq : Nat) (cZ cD cI : ClassId) (nb : Nat → Bool) (v : Nat → UInt64) (ln : Nat → Nat) (go : Bool) (mv : Int32) (hln : ∀ j, ln j ≤ 12) (hl0 : l.stackTraces = false) (t : Nat) (k : Nat) (ht : t < 12) (hk : k < 2147483648) (hsome : bs nb v t k (ln t) ≠ 164) : vx_Met l yX0_extremePlace wsX0_extremePlace ({ frames := 1, cells := 0, slots := 0, locals := 27 }) (va_Pc [.ref h0, .int (nI t), .int (nI k)] (fun U => xOK U ∧ va_P D vwCl (WB h0 hn hd hq cZ cD cI nb v ln go mv) U.heap ∧ va_K D vwCl (TY cZ cD cI) U)) (rd_Qi (fun r => r = nI (bs nb v t k (ln t)))) (rd_X (fun E => False)) 0 0 (fun _ => False) := by
  refine vx_ofW (cc := cX0_extremePlace) (maxL := 7) (ret := some .int) (by decide) rfl ?_
  intro p e s m args below meth c s₁ B hml hno hv
  obtain ⟨rfl, hX, hP, hK⟩ := hv
  have hx := B.exec
  have hb := B.bytes
  have hr := B.returns
  have hts := atoms_spec (ws := wsX0_extremePlace) B.pre
  have hown : s.vm.findClass RX0 = some m.cls := findClass_of_methodNamed B.named
  have hlocks := B.notSynchronized
  have hl := lv_entry ([.ref h0, .int (nI t), .int (nI k)]) (n := 7) (Nat.le_of_ble_eq_true rfl)
  rw [lg_entry_eq]
  generalize (lg_sl ([.ref h0, .int (nI t), .int (nI k)]) ++ List.replicate (7 - (lg_sl ([.ref h0, .int (nI t), .int (nI k)])).length) Slot.unset).toArray = ls at hl ⊢
  have hl : lv_has ls 7 [(0, .ref h0), (1, .int (nI t)), (2, .int (nI k))] := hl
  have hinRX0 : ∀ w ∈ wsX00, w ∈ wsX0_extremePlace := by decide +kernel
  have hf_17 := hts (.fieldLink RX0 17 "HarbourBoard" "lengths" "[I") (by decide +kernel)
  have hf_9 := hts (.fieldLink RX0 9 "HarbourBoard" "isNumber" "[Z") (by decide +kernel)
  have h1 := hln t
  refine lv_sipush (v := nI 164) hx hb dX0_extremePlace_0 (by decide) ?_
  refine lv_istore_n (lv' := [(3, .int (nI 164)), (0, .ref h0), (1, .int (nI t)), (2, .int (nI k))]) hx hb dX0_extremePlace_3 rfl hl (by decide) rfl (fun ls hl => ?_)
  refine lv_iconst (v := nI 0) hx hb dX0_extremePlace_4 (by decide) ?_
  refine lv_istore (lv' := [(4, .int (nI 0)), (3, .int (nI 164)), (0, .ref h0), (1, .int (nI t)), (2, .int (nI k))]) hx hb dX0_extremePlace_5 hl (by decide) rfl (fun ls hl => ?_)
  refine (?_ : ∀ (k_ i : Nat) (ls : Array Slot), i + k_ = ln t → lv_has ls 7 [(0, .ref h0), (1, .int (nI t)), (2, .int (nI k)), (3, .int (nI (bs nb v t k i))), (4, .int (nI i))] → W p l e _ s m _ below meth c _ _ _ _ _ (F0 m 7 ls [])) (ln t) 0 ls (by omega) (lv_sub hl [2, 3, 4, 1, 0] rfl)
  clear hl
  intro k_
  induction k_ with
  | zero =>
    intro i ls hi hl
    have hbs := bs_lt (nb := nb) (v := v) (k := k) (i := i) ht (by omega)
    refine lv_iload hx hb dX0_extremePlace_7 (lv_at hl 4 rfl) ?_
    refine lv_aload_n hx hb dX0_extremePlace_9 rfl (lv_at hl 0 rfl) ?_
    refine va_get (D := D) (ci := 1) (v := .ref hq) (C := RX0) (T := TX0) (N := 5) hx hb hts hinRX0 hown hK hP 0 rfl rfl 2 (by decide) hf_17 (fun _ h9 => h9) rfl dX0_extremePlace_10 ?_
    refine lv_iload_n hx hb dX0_extremePlace_13 rfl (lv_at hl 1 rfl) ?_
    refine kn_iald hx hb hK hP 3 2 rfl rfl (by omega) (by decide) dX0_extremePlace_14 ?_
    refine kn_icmp_ge (tgt := 75) hx hb (by omega) (by omega) dX0_extremePlace_15 (by decide) (fun c_x => ?_) (fun h => absurd h (by omega))
    refine lv_iload_n hx hb dX0_extremePlace_75 rfl (lv_at hl 3 rfl) ?_
    refine lv_sipush (v := nI 164) hx hb dX0_extremePlace_76 (by decide) ?_
    refine kn_icmp_ne (tgt := 92) hx hb (by omega) (by decide) dX0_extremePlace_79 (by decide) (fun c_x => ?_) (fun h => absurd (by rw [← show i = ln t by omega]; exact h) hsome)
    refine lv_iload_n hx hb dX0_extremePlace_92 rfl (lv_at hl 3 rfl) ?_
    refine vx_ret ?_
    refine W.widen (k := 0) (n := 0) (Nat.le_of_ble_eq_true rfl) (Nat.le_of_ble_eq_true rfl) ?_
    exact W.iret (v := nI (bs nb v t k i)) hx hb hr (fun t9 ht9 hW9 => ⟨⟨_, rfl, by rw [show i = ln t by omega]⟩, ht9⟩) (fun q hq => absurd hq List.not_mem_nil) dX0_extremePlace_93
  | succ k_ ih =>
    intro i ls hi hl
    have hbs := bs_lt (nb := nb) (v := v) (k := k) (i := i) ht (by omega)
    refine lv_iload hx hb dX0_extremePlace_7 (lv_at hl 4 rfl) ?_
    refine lv_aload_n hx hb dX0_extremePlace_9 rfl (lv_at hl 0 rfl) ?_
    refine va_get (D := D) (ci := 1) (v := .ref hq) (C := RX0) (T := TX0) (N := 5) hx hb hts hinRX0 hown hK hP 0 rfl rfl 2 (by decide) hf_17 (fun _ h9 => h9) rfl dX0_extremePlace_10 ?_
    refine lv_iload_n hx hb dX0_extremePlace_13 rfl (lv_at hl 1 rfl) ?_
    refine kn_iald hx hb hK hP 3 2 rfl rfl (by omega) (by decide) dX0_extremePlace_14 ?_
    refine kn_icmp_ge (tgt := 75) hx hb (by omega) (by omega) dX0_extremePlace_15 (by decide) (fun h => absurd h (by omega)) (fun c_x => ?_)
    refine lv_iload_n hx hb dX0_extremePlace_18 rfl (lv_at hl 1 rfl) ?_
    refine lv_iload hx hb dX0_extremePlace_19 (lv_at hl 4 rfl) ?_
    refine rd_calli (va_runS (As := [.int (nI t), .int (nI i)]) (rest := []) ⟨hx, hb, hml, hown, hts⟩ (c_X0_stripPlace l t i ) (va_cwS 2 hts gX0_extremePlace_X0_stripPlace rfl rfl rfl (by decide +kernel) ⟨Nat.le_of_ble_eq_true rfl, Nat.le_of_ble_eq_true rfl⟩) ⟨fun a U g mk q => q, fun U hU hW => ⟨rfl, trivial⟩⟩ rfl rfl hl.1 rfl (lv_room (Nat.le_of_ble_eq_true rfl)) dX0_extremePlace_21 ⟨Nat.le_of_ble_eq_true rfl, Nat.le_of_ble_eq_true rfl⟩) (fun r_1 hr_1 => ?_)
    subst hr_1
    refine lv_istore (lv' := [(5, .int (nI (t * 12 + i))), (0, .ref h0), (1, .int (nI t)), (2, .int (nI k)), (3, .int (nI (bs nb v t k i))), (4, .int (nI i))]) hx hb dX0_extremePlace_24 hl (by decide) rfl (fun ls hl => ?_)
    refine lv_aload_n hx hb dX0_extremePlace_26 rfl (lv_at hl 1 rfl) ?_
    refine va_get (D := D) (ci := 1) (v := .ref hn) (C := RX0) (T := TX0) (N := 5) hx hb hts hinRX0 hown hK hP 0 rfl rfl 0 (by decide) hf_9 (fun _ h9 => h9) rfl dX0_extremePlace_27 ?_
    refine lv_iload hx hb dX0_extremePlace_30 (lv_at hl 0 rfl) ?_
    refine kn_zald hx hb hK hP 1 0 rfl rfl (by omega) (by decide) dX0_extremePlace_32 ?_
    refine kb_eq (tgt := 47) hx hb dX0_extremePlace_33 (by decide) (fun c_2 => ?_) (fun c_2 => ?_)
    · refine lv_iconst (v := nI 0) hx hb dX0_extremePlace_47 (by decide) ?_
      refine lv_istore (lv' := [(6, .int (nI 0)), (5, .int (nI (t * 12 + i))), (0, .ref h0), (1, .int (nI t)), (2, .int (nI k)), (3, .int (nI (bs nb v t k i))), (4, .int (nI i))]) hx hb dX0_extremePlace_48 hl (by decide) rfl (fun ls hl => ?_)
      refine lv_iload hx hb dX0_extremePlace_50 (lv_at hl 0 rfl) ?_
      refine kn_ne (tgt := 66) hx hb (by decide) dX0_extremePlace_52 (by decide) (fun h => absurd h (by decide)) (fun _ => ?_)
      refine lv_aload_n hx hb dX0_extremePlace_55 rfl (lv_at hl 2 rfl) ?_
      refine lv_iload hx hb dX0_extremePlace_56 (lv_at hl 1 rfl) ?_
      refine lv_iload_n hx hb dX0_extremePlace_58 rfl (lv_at hl 5 rfl) ?_
      refine lv_iload_n hx hb dX0_extremePlace_59 rfl (lv_at hl 4 rfl) ?_
      refine rd_calli (va_runV (As := [.int (nI (t * 12 + i)), .int (nI (bs nb v t k i)), .int (nI k)]) (rest := []) ⟨hx, hb, hml, hown, hts⟩ (c_X0_isRelated l D h0 hn hd hq cZ cD cI nb v ln go mv hln (t * 12 + i) (bs nb v t k i) k (by omega) (by omega) (by omega)) (cwV 3 hts gX0_extremePlace_X0_isRelated rfl rfl rfl (by decide +kernel) ⟨Nat.le_of_ble_eq_true rfl, Nat.le_of_ble_eq_true rfl⟩) ⟨fun a U g mk q => ⟨q.1, q.2.1, va_K.moved (u := U) (U := U.calling g mk a) (Vm.Alike.refl U.vm) q.2.2⟩, va_recv hK hP (ci := 1) (q0 := 0) rfl rfl, fun U hU hW => ⟨rfl, by rw [hU]; exact hP, va_K.moved hW.alike hK⟩⟩ rfl rfl hl.1 rfl (lv_room (Nat.le_of_ble_eq_true rfl)) dX0_extremePlace_60 ⟨Nat.le_of_ble_eq_true rfl, Nat.le_of_ble_eq_true rfl⟩) (fun r_3 hr_3 => ?_)
      subst hr_3
      refine kb_eq (tgt := 69) hx hb dX0_extremePlace_63 (by decide) (fun c_4 => ?_) (fun c_4 => ?_)
      · refine lv_iinc (v := nI (i + 1)) (lv' := [(4, .int (nI (i + 1))), (6, .int (nI 0)), (5, .int (nI (t * 12 + i))), (0, .ref h0), (1, .int (nI t)), (2, .int (nI k)), (3, .int (nI (bs nb v t k i)))]) hx hb dX0_extremePlace_69 hl (k := 6) rfl (nI_add i 1) (by decide) rfl (fun ls hl => ?_)
        refine lv_goto (tgt := 7) hx hb dX0_extremePlace_72 (by decide) ?_
        have e_1 : bs nb v t k (i + 1) = bs nb v t k i := by simp [bs, c_2, c_4]
        exact ih (i + 1) ls (by omega) (by rw [e_1]; exact lv_sub hl [3, 4, 5, 6, 0] rfl)
      · refine lv_iload hx hb dX0_extremePlace_66 (lv_at hl 1 rfl) ?_
        refine lv_istore_n (lv' := [(3, .int (nI (t * 12 + i))), (6, .int (nI 0)), (5, .int (nI (t * 12 + i))), (0, .ref h0), (1, .int (nI t)), (2, .int (nI k)), (4, .int (nI i))]) hx hb dX0_extremePlace_68 rfl hl (by decide) rfl (fun ls hl => ?_)
        refine lv_iinc (v := nI (i + 1)) (lv' := [(4, .int (nI (i + 1))), (3, .int (nI (t * 12 + i))), (6, .int (nI 0)), (5, .int (nI (t * 12 + i))), (0, .ref h0), (1, .int (nI t)), (2, .int (nI k))]) hx hb dX0_extremePlace_69 hl (k := 6) rfl (nI_add i 1) (by decide) rfl (fun ls hl => ?_)
        refine lv_goto (tgt := 7) hx hb dX0_extremePlace_72 (by decide) ?_
        have e_1 : bs nb v t k (i + 1) = t * 12 + i := by simp [bs, c_2, c_4]
        exact ih (i + 1) ls (by omega) (by rw [e_1]; exact lv_sub hl [4, 5, 6, 1, 0] rfl)
    · refine lv_iload_n hx hb dX0_extremePlace_36 rfl (lv_at hl 4 rfl) ?_
      refine lv_sipush (v := nI 164) hx hb dX0_extremePlace_37 (by decide) ?_
      refine kn_icmp_ne (tgt := 47) hx hb (by omega) (by decide) dX0_extremePlace_40 (by decide) (fun c_5 => ?_) (fun c_5 => ?_)
      · refine lv_iconst (v := nI 0) hx hb dX0_extremePlace_47 (by decide) ?_
        refine lv_istore (lv' := [(6, .int (nI 0)), (5, .int (nI (t * 12 + i))), (0, .ref h0), (1, .int (nI t)), (2, .int (nI k)), (3, .int (nI (bs nb v t k i))), (4, .int (nI i))]) hx hb dX0_extremePlace_48 hl (by decide) rfl (fun ls hl => ?_)
        refine lv_iload hx hb dX0_extremePlace_50 (lv_at hl 0 rfl) ?_
        refine kn_ne (tgt := 66) hx hb (by decide) dX0_extremePlace_52 (by decide) (fun h => absurd h (by decide)) (fun _ => ?_)
        refine lv_aload_n hx hb dX0_extremePlace_55 rfl (lv_at hl 2 rfl) ?_
        refine lv_iload hx hb dX0_extremePlace_56 (lv_at hl 1 rfl) ?_
        refine lv_iload_n hx hb dX0_extremePlace_58 rfl (lv_at hl 5 rfl) ?_
        refine lv_iload_n hx hb dX0_extremePlace_59 rfl (lv_at hl 4 rfl) ?_
        refine rd_calli (va_runV (As := [.int (nI (t * 12 + i)), .int (nI (bs nb v t k i)), .int (nI k)]) (rest := []) ⟨hx, hb, hml, hown, hts⟩ (c_X0_isRelated l D h0 hn hd hq cZ cD cI nb v ln go mv hln (t * 12 + i) (bs nb v t k i) k (by omega) (by omega) (by omega)) (cwV 3 hts gX0_extremePlace_X0_isRelated rfl rfl rfl (by decide +kernel) ⟨Nat.le_of_ble_eq_true rfl, Nat.le_of_ble_eq_true rfl⟩) ⟨fun a U g mk q => ⟨q.1, q.2.1, va_K.moved (u := U) (U := U.calling g mk a) (Vm.Alike.refl U.vm) q.2.2⟩, va_recv hK hP (ci := 1) (q0 := 0) rfl rfl, fun U hU hW => ⟨rfl, by rw [hU]; exact hP, va_K.moved hW.alike hK⟩⟩ rfl rfl hl.1 rfl (lv_room (Nat.le_of_ble_eq_true rfl)) dX0_extremePlace_60 ⟨Nat.le_of_ble_eq_true rfl, Nat.le_of_ble_eq_true rfl⟩) (fun r_6 hr_6 => ?_)
        subst hr_6
        refine kb_eq (tgt := 69) hx hb dX0_extremePlace_63 (by decide) (fun c_7 => ?_) (fun c_7 => ?_)
        · refine lv_iinc (v := nI (i + 1)) (lv' := [(4, .int (nI (i + 1))), (6, .int (nI 0)), (5, .int (nI (t * 12 + i))), (0, .ref h0), (1, .int (nI t)), (2, .int (nI k)), (3, .int (nI (bs nb v t k i)))]) hx hb dX0_extremePlace_69 hl (k := 6) rfl (nI_add i 1) (by decide) rfl (fun ls hl => ?_)
          refine lv_goto (tgt := 7) hx hb dX0_extremePlace_72 (by decide) ?_
          have e_1 : bs nb v t k (i + 1) = bs nb v t k i := by simp [bs, c_2, c_5, c_7]
          exact ih (i + 1) ls (by omega) (by rw [e_1]; exact lv_sub hl [3, 4, 5, 6, 0] rfl)
        · refine lv_iload hx hb dX0_extremePlace_66 (lv_at hl 1 rfl) ?_
          refine lv_istore_n (lv' := [(3, .int (nI (t * 12 + i))), (6, .int (nI 0)), (5, .int (nI (t * 12 + i))), (0, .ref h0), (1, .int (nI t)), (2, .int (nI k)), (4, .int (nI i))]) hx hb dX0_extremePlace_68 rfl hl (by decide) rfl (fun ls hl => ?_)
          refine lv_iinc (v := nI (i + 1)) (lv' := [(4, .int (nI (i + 1))), (3, .int (nI (t * 12 + i))), (6, .int (nI 0)), (5, .int (nI (t * 12 + i))), (0, .ref h0), (1, .int (nI t)), (2, .int (nI k))]) hx hb dX0_extremePlace_69 hl (k := 6) rfl (nI_add i 1) (by decide) rfl (fun ls hl => ?_)
          refine lv_goto (tgt := 7) hx hb dX0_extremePlace_72 (by decide) ?_
          have e_1 : bs nb v t k (i + 1) = t * 12 + i := by simp [bs, c_2, c_5, c_7]
          exact ih (i + 1) ls (by omega) (by rw [e_1]; exact lv_sub hl [4, 5, 6, 1, 0] rfl)
      · refine lv_iconst (v := nI 1) hx hb dX0_extremePlace_43 (by decide) ?_
        refine lv_goto (tgt := 48) hx hb dX0_extremePlace_44 (by decide) ?_
        refine lv_istore (lv' := [(6, .int (nI 1)), (5, .int (nI (t * 12 + i))), (0, .ref h0), (1, .int (nI t)), (2, .int (nI k)), (3, .int (nI (bs nb v t k i))), (4, .int (nI i))]) hx hb dX0_extremePlace_48 hl (by decide) rfl (fun ls hl => ?_)
        refine lv_iload hx hb dX0_extremePlace_50 (lv_at hl 0 rfl) ?_
        refine kn_ne (tgt := 66) hx hb (by decide) dX0_extremePlace_52 (by decide) (fun _ => ?_) (fun h => absurd h (by decide))
        refine lv_iload hx hb dX0_extremePlace_66 (lv_at hl 1 rfl) ?_
        refine lv_istore_n (lv' := [(3, .int (nI (t * 12 + i))), (6, .int (nI 1)), (5, .int (nI (t * 12 + i))), (0, .ref h0), (1, .int (nI t)), (2, .int (nI k)), (4, .int (nI i))]) hx hb dX0_extremePlace_68 rfl hl (by decide) rfl (fun ls hl => ?_)
        refine lv_iinc (v := nI (i + 1)) (lv' := [(4, .int (nI (i + 1))), (3, .int (nI (t * 12 + i))), (6, .int (nI 1)), (5, .int (nI (t * 12 + i))), (0, .ref h0), (1, .int (nI t)), (2, .int (nI k))]) hx hb dX0_extremePlace_69 hl (k := 6) rfl (nI_add i 1) (by decide) rfl (fun ls hl => ?_)
        refine lv_goto (tgt := 7) hx hb dX0_extremePlace_72 (by decide) ?_
        have e_1 : bs nb v t k (i + 1) = t * 12 + i := by simp [bs, c_2, c_5]
        exact ih (i + 1) ls (by omega) (by rw [e_1]; exact lv_sub hl [4, 5, 6, 1, 0] rfl)
theorem c_X0_extremePlace (l : Launch) (D : va_G) (h0 hn hd hq : Nat) (cZ cD cI : ClassId) (nb : Nat → Bool) (v : Nat → UInt64) (ln : Nat → Nat) (go : Bool) (mv : Int32) (hln : ∀ j, ln j ≤ 12) (hl0 : l.stackTraces = false) (t : Nat) (k : Nat) (ht : t < 12) (hk : k < 2147483648) (hsome : bs nb v t k (ln t) ≠ 164) : Met l yX0_extremePlace wsX0_extremePlace ({ frames := 1, cells := 0, slots := 0, locals := 27 }) (va_Pc [.ref h0, .int (nI t), .int (nI k)] (fun U => xOK U ∧ va_P D vwCl (WB h0 hn hd hq cZ cD cI nb v ln go mv) U.heap ∧ va_K D vwCl (TY cZ cD cI) U)) (rd_Qi (fun r => r = nI (bs nb v t k (ln t)))) 0 0 (fun _ => False) := met_of_ok (c_X0_extremePlace_x l D h0 hn hd hq cZ cD cI nb v ln go mv hln hl0 t k ht hk hsome)
set_option maxHeartbeats 4000000 in
set_option maxRecDepth 100000 in
theorem c_X0_extremePlace_none (l : Launch) (D : va_G) (h0 hn hd hq : Nat) (cZ cD cI : ClassId) (nb : Nat → Bool) (v : Nat → UInt64) (ln : Nat → Nat) (go : Bool) (mv : Int32) (hln : ∀ j, ln j ≤ 12) (hl0 : l.stackTraces = false) (t : Nat) (k : Nat) (ht : t < 12) (hk : k < 2147483648) (hnone : bs nb v t k (ln t) = 164) : vx_Met l yX0_extremePlace wsX0_extremePlace ({ frames := 6, cells := 1, slots := 6, locals := 82 }) (va_Pc [.ref h0, .int (nI t), .int (nI k)] (fun U => xOK U ∧ va_P D vwCl (WB h0 hn hd hq cZ cD cI nb v ln go mv) U.heap ∧ va_K D vwCl (TY cZ cD cI) U)) (fun _ _ _ _ => False) (rd_X (fun E => E = NSE)) 1 6 (fun _ => False) := by
  refine vx_ofW (cc := cX0_extremePlace) (maxL := 7) (ret := some .int) (by decide) rfl ?_
  intro p e s m args below meth c s₁ B hml hno hv
  obtain ⟨rfl, hX, hP, hK⟩ := hv
  have hx := B.exec
  have hb := B.bytes
  have hr := B.returns
  have hts := atoms_spec (ws := wsX0_extremePlace) B.pre
  have hown : s.vm.findClass RX0 = some m.cls := findClass_of_methodNamed B.named
  have hlocks := B.notSynchronized
  have hl := lv_entry ([.ref h0, .int (nI t), .int (nI k)]) (n := 7) (Nat.le_of_ble_eq_true rfl)
  rw [lg_entry_eq]
  generalize (lg_sl ([.ref h0, .int (nI t), .int (nI k)]) ++ List.replicate (7 - (lg_sl ([.ref h0, .int (nI t), .int (nI k)])).length) Slot.unset).toArray = ls at hl ⊢
  have hl : lv_has ls 7 [(0, .ref h0), (1, .int (nI t)), (2, .int (nI k))] := hl
  have hinRX0 : ∀ w ∈ wsX00, w ∈ wsX0_extremePlace := by decide +kernel
  have hf_17 := hts (.fieldLink RX0 17 "HarbourBoard" "lengths" "[I") (by decide +kernel)
  have hf_9 := hts (.fieldLink RX0 9 "HarbourBoard" "isNumber" "[Z") (by decide +kernel)
  have h1 := hln t
  refine lv_sipush (v := nI 164) hx hb dX0_extremePlace_0 (by decide) ?_
  refine lv_istore_n (lv' := [(3, .int (nI 164)), (0, .ref h0), (1, .int (nI t)), (2, .int (nI k))]) hx hb dX0_extremePlace_3 rfl hl (by decide) rfl (fun ls hl => ?_)
  refine lv_iconst (v := nI 0) hx hb dX0_extremePlace_4 (by decide) ?_
  refine lv_istore (lv' := [(4, .int (nI 0)), (3, .int (nI 164)), (0, .ref h0), (1, .int (nI t)), (2, .int (nI k))]) hx hb dX0_extremePlace_5 hl (by decide) rfl (fun ls hl => ?_)
  refine (?_ : ∀ (k_ i : Nat) (ls : Array Slot), i + k_ = ln t → lv_has ls 7 [(0, .ref h0), (1, .int (nI t)), (2, .int (nI k)), (3, .int (nI (bs nb v t k i))), (4, .int (nI i))] → W p l e _ s m _ below meth c _ _ _ _ _ (F0 m 7 ls [])) (ln t) 0 ls (by omega) (lv_sub hl [2, 3, 4, 1, 0] rfl)
  clear hl
  intro k_
  induction k_ with
  | zero =>
    intro i ls hi hl
    have hbs := bs_lt (nb := nb) (v := v) (k := k) (i := i) ht (by omega)
    refine lv_iload hx hb dX0_extremePlace_7 (lv_at hl 4 rfl) ?_
    refine lv_aload_n hx hb dX0_extremePlace_9 rfl (lv_at hl 0 rfl) ?_
    refine va_get (D := D) (ci := 1) (v := .ref hq) (C := RX0) (T := TX0) (N := 5) hx hb hts hinRX0 hown hK hP 0 rfl rfl 2 (by decide) hf_17 (fun _ h9 => h9) rfl dX0_extremePlace_10 ?_
    refine lv_iload_n hx hb dX0_extremePlace_13 rfl (lv_at hl 1 rfl) ?_
    refine kn_iald hx hb hK hP 3 2 rfl rfl (by omega) (by decide) dX0_extremePlace_14 ?_
    refine kn_icmp_ge (tgt := 75) hx hb (by omega) (by omega) dX0_extremePlace_15 (by decide) (fun c_x => ?_) (fun h => absurd h (by omega))
    refine lv_iload_n hx hb dX0_extremePlace_75 rfl (lv_at hl 3 rfl) ?_
    refine lv_sipush (v := nI 164) hx hb dX0_extremePlace_76 (by decide) ?_
    refine kn_icmp_ne (tgt := 92) hx hb (by omega) (by decide) dX0_extremePlace_79 (by decide) (fun h => absurd (by rw [show i = ln t by omega]; exact hnone) h) (fun c_x => ?_)
    exact th_Y (l := l) hx hb hl0 hown (by decide +kernel) (hts (.classLink RX0 176 NSE) (by decide +kernel)) (hts (.initialized NSE) (by decide +kernel)) (xS_178 hX.2.1) (fun w h => hts w (List.mem_cons_of_mem _ (List.mem_append_right _ h))) xn_NSE hX.2.2.2.2.2.2.2 xg_NSE hX (by rw [hml]; exact hl.1) dX0_extremePlace_82 dX0_extremePlace_85 dX0_extremePlace_86 dX0_extremePlace_88 dX0_extremePlace_91 hno (Nat.le_of_ble_eq_true rfl) (Nat.le_of_ble_eq_true rfl) (Nat.le_of_ble_eq_true rfl) (Nat.le_of_ble_eq_true rfl) hlocks (rfl) (Nat.le_of_ble_eq_true rfl) (Nat.le_of_ble_eq_true rfl)
  | succ k_ ih =>
    intro i ls hi hl
    have hbs := bs_lt (nb := nb) (v := v) (k := k) (i := i) ht (by omega)
    refine lv_iload hx hb dX0_extremePlace_7 (lv_at hl 4 rfl) ?_
    refine lv_aload_n hx hb dX0_extremePlace_9 rfl (lv_at hl 0 rfl) ?_
    refine va_get (D := D) (ci := 1) (v := .ref hq) (C := RX0) (T := TX0) (N := 5) hx hb hts hinRX0 hown hK hP 0 rfl rfl 2 (by decide) hf_17 (fun _ h9 => h9) rfl dX0_extremePlace_10 ?_
    refine lv_iload_n hx hb dX0_extremePlace_13 rfl (lv_at hl 1 rfl) ?_
    refine kn_iald hx hb hK hP 3 2 rfl rfl (by omega) (by decide) dX0_extremePlace_14 ?_
    refine kn_icmp_ge (tgt := 75) hx hb (by omega) (by omega) dX0_extremePlace_15 (by decide) (fun h => absurd h (by omega)) (fun c_x => ?_)
    refine lv_iload_n hx hb dX0_extremePlace_18 rfl (lv_at hl 1 rfl) ?_
    refine lv_iload hx hb dX0_extremePlace_19 (lv_at hl 4 rfl) ?_
    refine rd_calli (va_runS (As := [.int (nI t), .int (nI i)]) (rest := []) ⟨hx, hb, hml, hown, hts⟩ (c_X0_stripPlace l t i ) (va_cwS 2 hts gX0_extremePlace_X0_stripPlace rfl rfl rfl (by decide +kernel) ⟨Nat.le_of_ble_eq_true rfl, Nat.le_of_ble_eq_true rfl⟩) ⟨fun a U g mk q => q, fun U hU hW => ⟨rfl, trivial⟩⟩ rfl rfl hl.1 rfl (lv_room (Nat.le_of_ble_eq_true rfl)) dX0_extremePlace_21 ⟨Nat.le_of_ble_eq_true rfl, Nat.le_of_ble_eq_true rfl⟩) (fun r_1 hr_1 => ?_)
    subst hr_1
    refine lv_istore (lv' := [(5, .int (nI (t * 12 + i))), (0, .ref h0), (1, .int (nI t)), (2, .int (nI k)), (3, .int (nI (bs nb v t k i))), (4, .int (nI i))]) hx hb dX0_extremePlace_24 hl (by decide) rfl (fun ls hl => ?_)
    refine lv_aload_n hx hb dX0_extremePlace_26 rfl (lv_at hl 1 rfl) ?_
    refine va_get (D := D) (ci := 1) (v := .ref hn) (C := RX0) (T := TX0) (N := 5) hx hb hts hinRX0 hown hK hP 0 rfl rfl 0 (by decide) hf_9 (fun _ h9 => h9) rfl dX0_extremePlace_27 ?_
    refine lv_iload hx hb dX0_extremePlace_30 (lv_at hl 0 rfl) ?_
    refine kn_zald hx hb hK hP 1 0 rfl rfl (by omega) (by decide) dX0_extremePlace_32 ?_
    refine kb_eq (tgt := 47) hx hb dX0_extremePlace_33 (by decide) (fun c_2 => ?_) (fun c_2 => ?_)
    · refine lv_iconst (v := nI 0) hx hb dX0_extremePlace_47 (by decide) ?_
      refine lv_istore (lv' := [(6, .int (nI 0)), (5, .int (nI (t * 12 + i))), (0, .ref h0), (1, .int (nI t)), (2, .int (nI k)), (3, .int (nI (bs nb v t k i))), (4, .int (nI i))]) hx hb dX0_extremePlace_48 hl (by decide) rfl (fun ls hl => ?_)
      refine lv_iload hx hb dX0_extremePlace_50 (lv_at hl 0 rfl) ?_
      refine kn_ne (tgt := 66) hx hb (by decide) dX0_extremePlace_52 (by decide) (fun h => absurd h (by decide)) (fun _ => ?_)
      refine lv_aload_n hx hb dX0_extremePlace_55 rfl (lv_at hl 2 rfl) ?_
      refine lv_iload hx hb dX0_extremePlace_56 (lv_at hl 1 rfl) ?_
      refine lv_iload_n hx hb dX0_extremePlace_58 rfl (lv_at hl 5 rfl) ?_
      refine lv_iload_n hx hb dX0_extremePlace_59 rfl (lv_at hl 4 rfl) ?_
      refine rd_calli (va_runV (As := [.int (nI (t * 12 + i)), .int (nI (bs nb v t k i)), .int (nI k)]) (rest := []) ⟨hx, hb, hml, hown, hts⟩ (c_X0_isRelated l D h0 hn hd hq cZ cD cI nb v ln go mv hln (t * 12 + i) (bs nb v t k i) k (by omega) (by omega) (by omega)) (cwV 3 hts gX0_extremePlace_X0_isRelated rfl rfl rfl (by decide +kernel) ⟨Nat.le_of_ble_eq_true rfl, Nat.le_of_ble_eq_true rfl⟩) ⟨fun a U g mk q => ⟨q.1, q.2.1, va_K.moved (u := U) (U := U.calling g mk a) (Vm.Alike.refl U.vm) q.2.2⟩, va_recv hK hP (ci := 1) (q0 := 0) rfl rfl, fun U hU hW => ⟨rfl, by rw [hU]; exact hP, va_K.moved hW.alike hK⟩⟩ rfl rfl hl.1 rfl (lv_room (Nat.le_of_ble_eq_true rfl)) dX0_extremePlace_60 ⟨Nat.le_of_ble_eq_true rfl, Nat.le_of_ble_eq_true rfl⟩) (fun r_3 hr_3 => ?_)
      subst hr_3
      refine kb_eq (tgt := 69) hx hb dX0_extremePlace_63 (by decide) (fun c_4 => ?_) (fun c_4 => ?_)
      · refine lv_iinc (v := nI (i + 1)) (lv' := [(4, .int (nI (i + 1))), (6, .int (nI 0)), (5, .int (nI (t * 12 + i))), (0, .ref h0), (1, .int (nI t)), (2, .int (nI k)), (3, .int (nI (bs nb v t k i)))]) hx hb dX0_extremePlace_69 hl (k := 6) rfl (nI_add i 1) (by decide) rfl (fun ls hl => ?_)
        refine lv_goto (tgt := 7) hx hb dX0_extremePlace_72 (by decide) ?_
        have e_1 : bs nb v t k (i + 1) = bs nb v t k i := by simp [bs, c_2, c_4]
        exact ih (i + 1) ls (by omega) (by rw [e_1]; exact lv_sub hl [3, 4, 5, 6, 0] rfl)
      · refine lv_iload hx hb dX0_extremePlace_66 (lv_at hl 1 rfl) ?_
        refine lv_istore_n (lv' := [(3, .int (nI (t * 12 + i))), (6, .int (nI 0)), (5, .int (nI (t * 12 + i))), (0, .ref h0), (1, .int (nI t)), (2, .int (nI k)), (4, .int (nI i))]) hx hb dX0_extremePlace_68 rfl hl (by decide) rfl (fun ls hl => ?_)
        refine lv_iinc (v := nI (i + 1)) (lv' := [(4, .int (nI (i + 1))), (3, .int (nI (t * 12 + i))), (6, .int (nI 0)), (5, .int (nI (t * 12 + i))), (0, .ref h0), (1, .int (nI t)), (2, .int (nI k))]) hx hb dX0_extremePlace_69 hl (k := 6) rfl (nI_add i 1) (by decide) rfl (fun ls hl => ?_)
        refine lv_goto (tgt := 7) hx hb dX0_extremePlace_72 (by decide) ?_
        have e_1 : bs nb v t k (i + 1) = t * 12 + i := by simp [bs, c_2, c_4]
        exact ih (i + 1) ls (by omega) (by rw [e_1]; exact lv_sub hl [4, 5, 6, 1, 0] rfl)
    · refine lv_iload_n hx hb dX0_extremePlace_36 rfl (lv_at hl 4 rfl) ?_
      refine lv_sipush (v := nI 164) hx hb dX0_extremePlace_37 (by decide) ?_
      refine kn_icmp_ne (tgt := 47) hx hb (by omega) (by decide) dX0_extremePlace_40 (by decide) (fun c_5 => ?_) (fun c_5 => ?_)
      · refine lv_iconst (v := nI 0) hx hb dX0_extremePlace_47 (by decide) ?_
        refine lv_istore (lv' := [(6, .int (nI 0)), (5, .int (nI (t * 12 + i))), (0, .ref h0), (1, .int (nI t)), (2, .int (nI k)), (3, .int (nI (bs nb v t k i))), (4, .int (nI i))]) hx hb dX0_extremePlace_48 hl (by decide) rfl (fun ls hl => ?_)
        refine lv_iload hx hb dX0_extremePlace_50 (lv_at hl 0 rfl) ?_
        refine kn_ne (tgt := 66) hx hb (by decide) dX0_extremePlace_52 (by decide) (fun h => absurd h (by decide)) (fun _ => ?_)
        refine lv_aload_n hx hb dX0_extremePlace_55 rfl (lv_at hl 2 rfl) ?_
        refine lv_iload hx hb dX0_extremePlace_56 (lv_at hl 1 rfl) ?_
        refine lv_iload_n hx hb dX0_extremePlace_58 rfl (lv_at hl 5 rfl) ?_
        refine lv_iload_n hx hb dX0_extremePlace_59 rfl (lv_at hl 4 rfl) ?_
        refine rd_calli (va_runV (As := [.int (nI (t * 12 + i)), .int (nI (bs nb v t k i)), .int (nI k)]) (rest := []) ⟨hx, hb, hml, hown, hts⟩ (c_X0_isRelated l D h0 hn hd hq cZ cD cI nb v ln go mv hln (t * 12 + i) (bs nb v t k i) k (by omega) (by omega) (by omega)) (cwV 3 hts gX0_extremePlace_X0_isRelated rfl rfl rfl (by decide +kernel) ⟨Nat.le_of_ble_eq_true rfl, Nat.le_of_ble_eq_true rfl⟩) ⟨fun a U g mk q => ⟨q.1, q.2.1, va_K.moved (u := U) (U := U.calling g mk a) (Vm.Alike.refl U.vm) q.2.2⟩, va_recv hK hP (ci := 1) (q0 := 0) rfl rfl, fun U hU hW => ⟨rfl, by rw [hU]; exact hP, va_K.moved hW.alike hK⟩⟩ rfl rfl hl.1 rfl (lv_room (Nat.le_of_ble_eq_true rfl)) dX0_extremePlace_60 ⟨Nat.le_of_ble_eq_true rfl, Nat.le_of_ble_eq_true rfl⟩) (fun r_6 hr_6 => ?_)
        subst hr_6
        refine kb_eq (tgt := 69) hx hb dX0_extremePlace_63 (by decide) (fun c_7 => ?_) (fun c_7 => ?_)
        · refine lv_iinc (v := nI (i + 1)) (lv' := [(4, .int (nI (i + 1))), (6, .int (nI 0)), (5, .int (nI (t * 12 + i))), (0, .ref h0), (1, .int (nI t)), (2, .int (nI k)), (3, .int (nI (bs nb v t k i)))]) hx hb dX0_extremePlace_69 hl (k := 6) rfl (nI_add i 1) (by decide) rfl (fun ls hl => ?_)
          refine lv_goto (tgt := 7) hx hb dX0_extremePlace_72 (by decide) ?_
          have e_1 : bs nb v t k (i + 1) = bs nb v t k i := by simp [bs, c_2, c_5, c_7]
          exact ih (i + 1) ls (by omega) (by rw [e_1]; exact lv_sub hl [3, 4, 5, 6, 0] rfl)
        · refine lv_iload hx hb dX0_extremePlace_66 (lv_at hl 1 rfl) ?_
          refine lv_istore_n (lv' := [(3, .int (nI (t * 12 + i))), (6, .int (nI 0)), (5, .int (nI (t * 12 + i))), (0, .ref h0), (1, .int (nI t)), (2, .int (nI k)), (4, .int (nI i))]) hx hb dX0_extremePlace_68 rfl hl (by decide) rfl (fun ls hl => ?_)
          refine lv_iinc (v := nI (i + 1)) (lv' := [(4, .int (nI (i + 1))), (3, .int (nI (t * 12 + i))), (6, .int (nI 0)), (5, .int (nI (t * 12 + i))), (0, .ref h0), (1, .int (nI t)), (2, .int (nI k))]) hx hb dX0_extremePlace_69 hl (k := 6) rfl (nI_add i 1) (by decide) rfl (fun ls hl => ?_)
          refine lv_goto (tgt := 7) hx hb dX0_extremePlace_72 (by decide) ?_
          have e_1 : bs nb v t k (i + 1) = t * 12 + i := by simp [bs, c_2, c_5, c_7]
          exact ih (i + 1) ls (by omega) (by rw [e_1]; exact lv_sub hl [4, 5, 6, 1, 0] rfl)
      · refine lv_iconst (v := nI 1) hx hb dX0_extremePlace_43 (by decide) ?_
        refine lv_goto (tgt := 48) hx hb dX0_extremePlace_44 (by decide) ?_
        refine lv_istore (lv' := [(6, .int (nI 1)), (5, .int (nI (t * 12 + i))), (0, .ref h0), (1, .int (nI t)), (2, .int (nI k)), (3, .int (nI (bs nb v t k i))), (4, .int (nI i))]) hx hb dX0_extremePlace_48 hl (by decide) rfl (fun ls hl => ?_)
        refine lv_iload hx hb dX0_extremePlace_50 (lv_at hl 0 rfl) ?_
        refine kn_ne (tgt := 66) hx hb (by decide) dX0_extremePlace_52 (by decide) (fun _ => ?_) (fun h => absurd h (by decide))
        refine lv_iload hx hb dX0_extremePlace_66 (lv_at hl 1 rfl) ?_
        refine lv_istore_n (lv' := [(3, .int (nI (t * 12 + i))), (6, .int (nI 1)), (5, .int (nI (t * 12 + i))), (0, .ref h0), (1, .int (nI t)), (2, .int (nI k)), (4, .int (nI i))]) hx hb dX0_extremePlace_68 rfl hl (by decide) rfl (fun ls hl => ?_)
        refine lv_iinc (v := nI (i + 1)) (lv' := [(4, .int (nI (i + 1))), (3, .int (nI (t * 12 + i))), (6, .int (nI 1)), (5, .int (nI (t * 12 + i))), (0, .ref h0), (1, .int (nI t)), (2, .int (nI k))]) hx hb dX0_extremePlace_69 hl (k := 6) rfl (nI_add i 1) (by decide) rfl (fun ls hl => ?_)
        refine lv_goto (tgt := 7) hx hb dX0_extremePlace_72 (by decide) ?_
        have e_1 : bs nb v t k (i + 1) = t * 12 + i := by simp [bs, c_2, c_5]
        exact ih (i + 1) ls (by omega) (by rw [e_1]; exact lv_sub hl [4, 5, 6, 1, 0] rfl)
set_option maxHeartbeats 4000000 in
set_option maxRecDepth 100000 in
theorem c_X0_needMayOpen (l : Launch) (D : va_G) (h0 hn hd hq : Nat) (cZ cD cI : ClassId) (nb : Nat → Bool) (v : Nat → UInt64) (ln : Nat → Nat) (go : Bool) (mv : Int32) (hln : ∀ j, ln j ≤ 12) (hl0 : l.stackTraces = false)  : vx_Met l yX0_needMayOpen wsX0_needMayOpen ({ frames := 6, cells := 1, slots := 6, locals := 82 }) (va_Pc [.ref h0] (fun U => xOK U ∧ va_P D vwCl (WB h0 hn hd hq cZ cD cI nb v ln go mv) U.heap ∧ va_K D vwCl (TY cZ cD cI) U)) (rd_Qv (rp nb v (lp ln (0 * 2 + 0)) (lp ln (1 * 2 + 0)) 2 = true ∧ (nb (144 + 1 * 3 + 2) = false ∨ rp nb v (lp ln (1 * 2 + 1)) (144 + 1 * 3 + 2) 0 = true))) (rd_X (fun E => (E = UOE ∧ rp nb v (lp ln (0 * 2 + 0)) (lp ln (1 * 2 + 0)) 2 = false) ∨ (E = AE ∧ rp nb v (lp ln (0 * 2 + 0)) (lp ln (1 * 2 + 0)) 2 = true ∧ nb (144 + 1 * 3 + 2) = true ∧ rp nb v (lp ln (1 * 2 + 1)) (144 + 1 * 3 + 2) 0 = false))) 1 6 (fun _ => False) := by
  refine vx_ofW (cc := cX0_needMayOpen) (maxL := 2) (ret := none) (by decide) rfl ?_
  intro p e s m args below meth c s₁ B hml hno hv
  obtain ⟨rfl, hX, hP, hK⟩ := hv
  have hx := B.exec
  have hb := B.bytes
  have hr := B.returns
  have hts := atoms_spec (ws := wsX0_needMayOpen) B.pre
  have hown : s.vm.findClass RX0 = some m.cls := findClass_of_methodNamed B.named
  have hlocks := B.notSynchronized
  have hl := lv_entry ([.ref h0]) (n := 2) (Nat.le_of_ble_eq_true rfl)
  rw [lg_entry_eq]
  generalize (lg_sl ([.ref h0]) ++ List.replicate (2 - (lg_sl ([.ref h0])).length) Slot.unset).toArray = ls at hl ⊢
  have hl : lv_has ls 2 [(0, .ref h0)] := hl
  have hinRX0 : ∀ w ∈ wsX00, w ∈ wsX0_needMayOpen := by decide +kernel
  have hf_9 := hts (.fieldLink RX0 9 "HarbourBoard" "isNumber" "[Z") (by decide +kernel)
  refine lv_aload_n hx hb dX0_needMayOpen_0 rfl (lv_at hl 0 rfl) ?_
  refine lv_aload_n hx hb dX0_needMayOpen_1 rfl (lv_at hl 0 rfl) ?_
  refine lv_iconst (v := nI 0) hx hb dX0_needMayOpen_2 (by decide) ?_
  refine lv_iconst (v := nI 0) hx hb dX0_needMayOpen_3 (by decide) ?_
  refine rd_calli (va_runV (As := [.int (nI 0), .int (nI 0)]) (rest := [.ref h0]) ⟨hx, hb, hml, hown, hts⟩ (c_X0_latestPlace l D h0 hn hd hq cZ cD cI nb v ln go mv hln 0 0 (by omega) (by omega)) (cwV 2 hts gX0_needMayOpen_X0_latestPlace rfl rfl rfl (by decide +kernel) ⟨Nat.le_of_ble_eq_true rfl, Nat.le_of_ble_eq_true rfl⟩) ⟨fun a U g mk q => ⟨q.1, q.2.1, va_K.moved (u := U) (U := U.calling g mk a) (Vm.Alike.refl U.vm) q.2.2⟩, va_recv hK hP (ci := 1) (q0 := 0) rfl rfl, fun U hU hW => ⟨rfl, by rw [hU]; exact hP, va_K.moved hW.alike hK⟩⟩ rfl rfl hl.1 rfl (lv_room (Nat.le_of_ble_eq_true rfl)) dX0_needMayOpen_4 ⟨Nat.le_of_ble_eq_true rfl, Nat.le_of_ble_eq_true rfl⟩) (fun r_1 hr_1 => ?_)
  subst hr_1
  refine lv_aload_n hx hb dX0_needMayOpen_7 rfl (lv_at hl 0 rfl) ?_
  refine lv_iconst (v := nI 1) hx hb dX0_needMayOpen_8 (by decide) ?_
  refine lv_iconst (v := nI 0) hx hb dX0_needMayOpen_9 (by decide) ?_
  refine rd_calli (va_runV (As := [.int (nI 1), .int (nI 0)]) (rest := [.int (nI (lp ln (0 * 2 + 0))), .ref h0]) ⟨hx, hb, hml, hown, hts⟩ (c_X0_latestPlace l D h0 hn hd hq cZ cD cI nb v ln go mv hln 1 0 (by omega) (by omega)) (cwV 2 hts gX0_needMayOpen_X0_latestPlace rfl rfl rfl (by decide +kernel) ⟨Nat.le_of_ble_eq_true rfl, Nat.le_of_ble_eq_true rfl⟩) ⟨fun a U g mk q => ⟨q.1, q.2.1, va_K.moved (u := U) (U := U.calling g mk a) (Vm.Alike.refl U.vm) q.2.2⟩, va_recv hK hP (ci := 1) (q0 := 0) rfl rfl, fun U hU hW => ⟨rfl, by rw [hU]; exact hP, va_K.moved hW.alike hK⟩⟩ rfl rfl hl.1 rfl (lv_room (Nat.le_of_ble_eq_true rfl)) dX0_needMayOpen_10 ⟨Nat.le_of_ble_eq_true rfl, Nat.le_of_ble_eq_true rfl⟩) (fun r_2 hr_2 => ?_)
  subst hr_2
  refine lv_iconst (v := nI 2) hx hb dX0_needMayOpen_13 (by decide) ?_
  refine rd_calli (va_runV (As := [.int (nI (lp ln (0 * 2 + 0))), .int (nI (lp ln (1 * 2 + 0))), .int (nI 2)]) (rest := []) ⟨hx, hb, hml, hown, hts⟩ (c_X0_isRelated l D h0 hn hd hq cZ cD cI nb v ln go mv hln (lp ln (0 * 2 + 0)) (lp ln (1 * 2 + 0)) 2 (lp_lt hln (by omega)) (lp_lt hln (by omega)) (by decide)) (cwV 3 hts gX0_needMayOpen_X0_isRelated rfl rfl rfl (by decide +kernel) ⟨Nat.le_of_ble_eq_true rfl, Nat.le_of_ble_eq_true rfl⟩) ⟨fun a U g mk q => ⟨q.1, q.2.1, va_K.moved (u := U) (U := U.calling g mk a) (Vm.Alike.refl U.vm) q.2.2⟩, va_recv hK hP (ci := 1) (q0 := 0) rfl rfl, fun U hU hW => ⟨rfl, by rw [hU]; exact hP, va_K.moved hW.alike hK⟩⟩ rfl rfl hl.1 rfl (lv_room (Nat.le_of_ble_eq_true rfl)) dX0_needMayOpen_14 ⟨Nat.le_of_ble_eq_true rfl, Nat.le_of_ble_eq_true rfl⟩) (fun r_3 hr_3 => ?_)
  subst hr_3
  refine kb_ne (tgt := 30) hx hb dX0_needMayOpen_17 (by decide) (fun c_4 => ?_) (fun c_4 => ?_)
  · refine lv_iconst (v := nI 1) hx hb dX0_needMayOpen_30 (by decide) ?_
    refine lv_iconst (v := nI 2) hx hb dX0_needMayOpen_31 (by decide) ?_
    refine rd_calli (va_runS (As := [.int (nI 1), .int (nI 2)]) (rest := []) ⟨hx, hb, hml, hown, hts⟩ (c_X0_markPlace l 1 2 ) (va_cwS 2 hts gX0_needMayOpen_X0_markPlace rfl rfl rfl (by decide +kernel) ⟨Nat.le_of_ble_eq_true rfl, Nat.le_of_ble_eq_true rfl⟩) ⟨fun a U g mk q => q, fun U hU hW => ⟨rfl, trivial⟩⟩ rfl rfl hl.1 rfl (lv_room (Nat.le_of_ble_eq_true rfl)) dX0_needMayOpen_32 ⟨Nat.le_of_ble_eq_true rfl, Nat.le_of_ble_eq_true rfl⟩) (fun r_5 hr_5 => ?_)
    subst hr_5
    refine lv_istore_n (lv' := [(1, .int (nI (144 + 1 * 3 + 2))), (0, .ref h0)]) hx hb dX0_needMayOpen_35 rfl hl (by decide) rfl (fun ls hl => ?_)
    refine lv_aload_n hx hb dX0_needMayOpen_36 rfl (lv_at hl 1 rfl) ?_
    refine va_get (D := D) (ci := 1) (v := .ref hn) (C := RX0) (T := TX0) (N := 5) hx hb hts hinRX0 hown hK hP 0 rfl rfl 0 (by decide) hf_9 (fun _ h9 => h9) rfl dX0_needMayOpen_37 ?_
    refine lv_iload_n hx hb dX0_needMayOpen_40 rfl (lv_at hl 0 rfl) ?_
    refine kn_zald hx hb hK hP 1 0 rfl rfl (by omega) (by decide) dX0_needMayOpen_41 ?_
    refine kb_eq (tgt := 70) hx hb dX0_needMayOpen_42 (by decide) (fun c_6 => ?_) (fun c_6 => ?_)
    · refine vx_ret ?_
      refine W.widen (k := 1) (n := 6) (Nat.le_of_ble_eq_true rfl) (Nat.le_of_ble_eq_true rfl) ?_
      exact W.vret hx hb hr (fun t9 ht9 hW9 => ⟨⟨rfl, ⟨c_4, Or.inl c_6⟩⟩, ht9⟩) (fun q hq => absurd hq List.not_mem_nil) dX0_needMayOpen_70
    · refine lv_aload_n hx hb dX0_needMayOpen_45 rfl (lv_at hl 1 rfl) ?_
      refine lv_aload_n hx hb dX0_needMayOpen_46 rfl (lv_at hl 1 rfl) ?_
      refine lv_iconst (v := nI 1) hx hb dX0_needMayOpen_47 (by decide) ?_
      refine lv_iconst (v := nI 1) hx hb dX0_needMayOpen_48 (by decide) ?_
      refine rd_calli (va_runV (As := [.int (nI 1), .int (nI 1)]) (rest := [.ref h0]) ⟨hx, hb, hml, hown, hts⟩ (c_X0_latestPlace l D h0 hn hd hq cZ cD cI nb v ln go mv hln 1 1 (by omega) (by omega)) (cwV 2 hts gX0_needMayOpen_X0_latestPlace rfl rfl rfl (by decide +kernel) ⟨Nat.le_of_ble_eq_true rfl, Nat.le_of_ble_eq_true rfl⟩) ⟨fun a U g mk q => ⟨q.1, q.2.1, va_K.moved (u := U) (U := U.calling g mk a) (Vm.Alike.refl U.vm) q.2.2⟩, va_recv hK hP (ci := 1) (q0 := 0) rfl rfl, fun U hU hW => ⟨rfl, by rw [hU]; exact hP, va_K.moved hW.alike hK⟩⟩ rfl rfl hl.1 rfl (lv_room (Nat.le_of_ble_eq_true rfl)) dX0_needMayOpen_49 ⟨Nat.le_of_ble_eq_true rfl, Nat.le_of_ble_eq_true rfl⟩) (fun r_7 hr_7 => ?_)
      subst hr_7
      refine lv_iload_n hx hb dX0_needMayOpen_52 rfl (lv_at hl 0 rfl) ?_
      refine lv_iconst (v := nI 0) hx hb dX0_needMayOpen_53 (by decide) ?_
      refine rd_calli (va_runV (As := [.int (nI (lp ln (1 * 2 + 1))), .int (nI (144 + 1 * 3 + 2)), .int (nI 0)]) (rest := []) ⟨hx, hb, hml, hown, hts⟩ (c_X0_isRelated l D h0 hn hd hq cZ cD cI nb v ln go mv hln (lp ln (1 * 2 + 1)) (144 + 1 * 3 + 2) 0 (lp_lt hln (by omega)) (by omega) (by decide)) (cwV 3 hts gX0_needMayOpen_X0_isRelated rfl rfl rfl (by decide +kernel) ⟨Nat.le_of_ble_eq_true rfl, Nat.le_of_ble_eq_true rfl⟩) ⟨fun a U g mk q => ⟨q.1, q.2.1, va_K.moved (u := U) (U := U.calling g mk a) (Vm.Alike.refl U.vm) q.2.2⟩, va_recv hK hP (ci := 1) (q0 := 0) rfl rfl, fun U hU hW => ⟨rfl, by rw [hU]; exact hP, va_K.moved hW.alike hK⟩⟩ rfl rfl hl.1 rfl (lv_room (Nat.le_of_ble_eq_true rfl)) dX0_needMayOpen_54 ⟨Nat.le_of_ble_eq_true rfl, Nat.le_of_ble_eq_true rfl⟩) (fun r_8 hr_8 => ?_)
      subst hr_8
      refine kb_ne (tgt := 70) hx hb dX0_needMayOpen_57 (by decide) (fun c_9 => ?_) (fun c_9 => ?_)
      · refine vx_ret ?_
        refine W.widen (k := 1) (n := 6) (Nat.le_of_ble_eq_true rfl) (Nat.le_of_ble_eq_true rfl) ?_
        exact W.vret hx hb hr (fun t9 ht9 hW9 => ⟨⟨rfl, ⟨c_4, Or.inr c_9⟩⟩, ht9⟩) (fun q hq => absurd hq List.not_mem_nil) dX0_needMayOpen_70
      · exact th_S (l := l) hx hb hl0 hown (by decide +kernel) (hts (.classLink RX0 160 AE) (by decide +kernel)) (hts (.initialized AE) (by decide +kernel)) (xS_162 hX.2.1) (fun w h => hts w (List.mem_cons_of_mem _ (List.mem_append_right _ h))) xn_AE hX.2.2.2.2.2.2.1 xg_AE hX (by rw [hml]; exact hl.1) dX0_needMayOpen_60 dX0_needMayOpen_63 dX0_needMayOpen_64 dX0_needMayOpen_66 dX0_needMayOpen_69 hno (Nat.le_of_ble_eq_true rfl) (Nat.le_of_ble_eq_true rfl) (Nat.le_of_ble_eq_true rfl) (Nat.le_of_ble_eq_true rfl) hlocks (Or.inr ⟨rfl, c_4, c_6, c_9⟩) (Nat.le_of_ble_eq_true rfl) (Nat.le_of_ble_eq_true rfl)
  · exact th_S (l := l) hx hb hl0 hown (by decide +kernel) (hts (.classLink RX0 155 UOE) (by decide +kernel)) (hts (.initialized UOE) (by decide +kernel)) (xS_157 hX.2.1) (fun w h => hts w (List.mem_cons_of_mem _ (List.mem_append_left _ (List.mem_append_right _ h)))) xn_UOE hX.2.2.2.2.2.1 xg_UOE hX (by rw [hml]; exact hl.1) dX0_needMayOpen_20 dX0_needMayOpen_23 dX0_needMayOpen_24 dX0_needMayOpen_26 dX0_needMayOpen_29 hno (Nat.le_of_ble_eq_true rfl) (Nat.le_of_ble_eq_true rfl) (Nat.le_of_ble_eq_true rfl) (Nat.le_of_ble_eq_true rfl) hlocks (Or.inl ⟨rfl, c_4⟩) (Nat.le_of_ble_eq_true rfl) (Nat.le_of_ble_eq_true rfl)
set_option maxHeartbeats 4000000 in
set_option maxRecDepth 100000 in
theorem c_X0_needMayShut (l : Launch) (D : va_G) (h0 hn hd hq : Nat) (cZ cD cI : ClassId) (nb : Nat → Bool) (v : Nat → UInt64) (ln : Nat → Nat) (go : Bool) (mv : Int32) (hln : ∀ j, ln j ≤ 12) (hl0 : l.stackTraces = false)  : vx_Met l yX0_needMayShut wsX0_needMayShut ({ frames := 6, cells := 1, slots := 6, locals := 82 }) (va_Pc [.ref h0] (fun U => xOK U ∧ va_P D vwCl (WB h0 hn hd hq cZ cD cI nb v ln go mv) U.heap ∧ va_K D vwCl (TY cZ cD cI) U)) (rd_Qv (rp nb v (lp ln (0 * 2 + 0)) (144 + 0 * 3 + 0) 2 = false ∧ rp nb v (lp ln (1 * 2 + 0)) (144 + 0 * 3 + 1) 1 = false)) (rd_X (fun E => (E = UOE ∧ rp nb v (lp ln (0 * 2 + 0)) (144 + 0 * 3 + 0) 2 = true) ∨ (E = AE ∧ rp nb v (lp ln (0 * 2 + 0)) (144 + 0 * 3 + 0) 2 = false ∧ rp nb v (lp ln (1 * 2 + 0)) (144 + 0 * 3 + 1) 1 = true))) 1 6 (fun _ => False) := by
  refine vx_ofW (cc := cX0_needMayShut) (maxL := 1) (ret := none) (by decide) rfl ?_
  intro p e s m args below meth c s₁ B hml hno hv
  obtain ⟨rfl, hX, hP, hK⟩ := hv
  have hx := B.exec
  have hb := B.bytes
  have hr := B.returns
  have hts := atoms_spec (ws := wsX0_needMayShut) B.pre
  have hown : s.vm.findClass RX0 = some m.cls := findClass_of_methodNamed B.named
  have hlocks := B.notSynchronized
  have hl := lv_entry ([.ref h0]) (n := 1) (Nat.le_of_ble_eq_true rfl)
  rw [lg_entry_eq]
  generalize (lg_sl ([.ref h0]) ++ List.replicate (1 - (lg_sl ([.ref h0])).length) Slot.unset).toArray = ls at hl ⊢
  have hl : lv_has ls 1 [(0, .ref h0)] := hl
  refine lv_aload_n hx hb dX0_needMayShut_0 rfl (lv_at hl 0 rfl) ?_
  refine lv_aload_n hx hb dX0_needMayShut_1 rfl (lv_at hl 0 rfl) ?_
  refine lv_iconst (v := nI 0) hx hb dX0_needMayShut_2 (by decide) ?_
  refine lv_iconst (v := nI 0) hx hb dX0_needMayShut_3 (by decide) ?_
  refine rd_calli (va_runV (As := [.int (nI 0), .int (nI 0)]) (rest := [.ref h0]) ⟨hx, hb, hml, hown, hts⟩ (c_X0_latestPlace l D h0 hn hd hq cZ cD cI nb v ln go mv hln 0 0 (by omega) (by omega)) (cwV 2 hts gX0_needMayShut_X0_latestPlace rfl rfl rfl (by decide +kernel) ⟨Nat.le_of_ble_eq_true rfl, Nat.le_of_ble_eq_true rfl⟩) ⟨fun a U g mk q => ⟨q.1, q.2.1, va_K.moved (u := U) (U := U.calling g mk a) (Vm.Alike.refl U.vm) q.2.2⟩, va_recv hK hP (ci := 1) (q0 := 0) rfl rfl, fun U hU hW => ⟨rfl, by rw [hU]; exact hP, va_K.moved hW.alike hK⟩⟩ rfl rfl hl.1 rfl (lv_room (Nat.le_of_ble_eq_true rfl)) dX0_needMayShut_4 ⟨Nat.le_of_ble_eq_true rfl, Nat.le_of_ble_eq_true rfl⟩) (fun r_1 hr_1 => ?_)
  subst hr_1
  refine lv_iconst (v := nI 0) hx hb dX0_needMayShut_7 (by decide) ?_
  refine lv_iconst (v := nI 0) hx hb dX0_needMayShut_8 (by decide) ?_
  refine rd_calli (va_runS (As := [.int (nI 0), .int (nI 0)]) (rest := [.int (nI (lp ln (0 * 2 + 0))), .ref h0]) ⟨hx, hb, hml, hown, hts⟩ (c_X0_markPlace l 0 0 ) (va_cwS 2 hts gX0_needMayShut_X0_markPlace rfl rfl rfl (by decide +kernel) ⟨Nat.le_of_ble_eq_true rfl, Nat.le_of_ble_eq_true rfl⟩) ⟨fun a U g mk q => q, fun U hU hW => ⟨rfl, trivial⟩⟩ rfl rfl hl.1 rfl (lv_room (Nat.le_of_ble_eq_true rfl)) dX0_needMayShut_9 ⟨Nat.le_of_ble_eq_true rfl, Nat.le_of_ble_eq_true rfl⟩) (fun r_2 hr_2 => ?_)
  subst hr_2
  refine lv_iconst (v := nI 2) hx hb dX0_needMayShut_12 (by decide) ?_
  refine rd_calli (va_runV (As := [.int (nI (lp ln (0 * 2 + 0))), .int (nI (144 + 0 * 3 + 0)), .int (nI 2)]) (rest := []) ⟨hx, hb, hml, hown, hts⟩ (c_X0_isRelated l D h0 hn hd hq cZ cD cI nb v ln go mv hln (lp ln (0 * 2 + 0)) (144 + 0 * 3 + 0) 2 (lp_lt hln (by omega)) (by omega) (by decide)) (cwV 3 hts gX0_needMayShut_X0_isRelated rfl rfl rfl (by decide +kernel) ⟨Nat.le_of_ble_eq_true rfl, Nat.le_of_ble_eq_true rfl⟩) ⟨fun a U g mk q => ⟨q.1, q.2.1, va_K.moved (u := U) (U := U.calling g mk a) (Vm.Alike.refl U.vm) q.2.2⟩, va_recv hK hP (ci := 1) (q0 := 0) rfl rfl, fun U hU hW => ⟨rfl, by rw [hU]; exact hP, va_K.moved hW.alike hK⟩⟩ rfl rfl hl.1 rfl (lv_room (Nat.le_of_ble_eq_true rfl)) dX0_needMayShut_13 ⟨Nat.le_of_ble_eq_true rfl, Nat.le_of_ble_eq_true rfl⟩) (fun r_3 hr_3 => ?_)
  subst hr_3
  refine kb_eq (tgt := 29) hx hb dX0_needMayShut_16 (by decide) (fun c_4 => ?_) (fun c_4 => ?_)
  · refine lv_aload_n hx hb dX0_needMayShut_29 rfl (lv_at hl 0 rfl) ?_
    refine lv_aload_n hx hb dX0_needMayShut_30 rfl (lv_at hl 0 rfl) ?_
    refine lv_iconst (v := nI 1) hx hb dX0_needMayShut_31 (by decide) ?_
    refine lv_iconst (v := nI 0) hx hb dX0_needMayShut_32 (by decide) ?_
    refine rd_calli (va_runV (As := [.int (nI 1), .int (nI 0)]) (rest := [.ref h0]) ⟨hx, hb, hml, hown, hts⟩ (c_X0_latestPlace l D h0 hn hd hq cZ cD cI nb v ln go mv hln 1 0 (by omega) (by omega)) (cwV 2 hts gX0_needMayShut_X0_latestPlace rfl rfl rfl (by decide +kernel) ⟨Nat.le_of_ble_eq_true rfl, Nat.le_of_ble_eq_true rfl⟩) ⟨fun a U g mk q => ⟨q.1, q.2.1, va_K.moved (u := U) (U := U.calling g mk a) (Vm.Alike.refl U.vm) q.2.2⟩, va_recv hK hP (ci := 1) (q0 := 0) rfl rfl, fun U hU hW => ⟨rfl, by rw [hU]; exact hP, va_K.moved hW.alike hK⟩⟩ rfl rfl hl.1 rfl (lv_room (Nat.le_of_ble_eq_true rfl)) dX0_needMayShut_33 ⟨Nat.le_of_ble_eq_true rfl, Nat.le_of_ble_eq_true rfl⟩) (fun r_5 hr_5 => ?_)
    subst hr_5
    refine lv_iconst (v := nI 0) hx hb dX0_needMayShut_36 (by decide) ?_
    refine lv_iconst (v := nI 1) hx hb dX0_needMayShut_37 (by decide) ?_
    refine rd_calli (va_runS (As := [.int (nI 0), .int (nI 1)]) (rest := [.int (nI (lp ln (1 * 2 + 0))), .ref h0]) ⟨hx, hb, hml, hown, hts⟩ (c_X0_markPlace l 0 1 ) (va_cwS 2 hts gX0_needMayShut_X0_markPlace rfl rfl rfl (by decide +kernel) ⟨Nat.le_of_ble_eq_true rfl, Nat.le_of_ble_eq_true rfl⟩) ⟨fun a U g mk q => q, fun U hU hW => ⟨rfl, trivial⟩⟩ rfl rfl hl.1 rfl (lv_room (Nat.le_of_ble_eq_true rfl)) dX0_needMayShut_38 ⟨Nat.le_of_ble_eq_true rfl, Nat.le_of_ble_eq_true rfl⟩) (fun r_6 hr_6 => ?_)
    subst hr_6
    refine lv_iconst (v := nI 1) hx hb dX0_needMayShut_41 (by decide) ?_
    refine rd_calli (va_runV (As := [.int (nI (lp ln (1 * 2 + 0))), .int (nI (144 + 0 * 3 + 1)), .int (nI 1)]) (rest := []) ⟨hx, hb, hml, hown, hts⟩ (c_X0_isRelated l D h0 hn hd hq cZ cD cI nb v ln go mv hln (lp ln (1 * 2 + 0)) (144 + 0 * 3 + 1) 1 (lp_lt hln (by omega)) (by omega) (by decide)) (cwV 3 hts gX0_needMayShut_X0_isRelated rfl rfl rfl (by decide +kernel) ⟨Nat.le_of_ble_eq_true rfl, Nat.le_of_ble_eq_true rfl⟩) ⟨fun a U g mk q => ⟨q.1, q.2.1, va_K.moved (u := U) (U := U.calling g mk a) (Vm.Alike.refl U.vm) q.2.2⟩, va_recv hK hP (ci := 1) (q0 := 0) rfl rfl, fun U hU hW => ⟨rfl, by rw [hU]; exact hP, va_K.moved hW.alike hK⟩⟩ rfl rfl hl.1 rfl (lv_room (Nat.le_of_ble_eq_true rfl)) dX0_needMayShut_42 ⟨Nat.le_of_ble_eq_true rfl, Nat.le_of_ble_eq_true rfl⟩) (fun r_7 hr_7 => ?_)
    subst hr_7
    refine kb_eq (tgt := 58) hx hb dX0_needMayShut_45 (by decide) (fun c_8 => ?_) (fun c_8 => ?_)
    · refine vx_ret ?_
      refine W.widen (k := 1) (n := 6) (Nat.le_of_ble_eq_true rfl) (Nat.le_of_ble_eq_true rfl) ?_
      exact W.vret hx hb hr (fun t9 ht9 hW9 => ⟨⟨rfl, ⟨c_4, c_8⟩⟩, ht9⟩) (fun q hq => absurd hq List.not_mem_nil) dX0_needMayShut_58
    · exact th_S (l := l) hx hb hl0 hown (by decide +kernel) (hts (.classLink RX0 160 AE) (by decide +kernel)) (hts (.initialized AE) (by decide +kernel)) (xS_167 hX.2.1) (fun w h => hts w (List.mem_cons_of_mem _ (List.mem_append_right _ h))) xn_AE hX.2.2.2.2.2.2.1 xg_AE hX (by rw [hml]; exact hl.1) dX0_needMayShut_48 dX0_needMayShut_51 dX0_needMayShut_52 dX0_needMayShut_54 dX0_needMayShut_57 hno (Nat.le_of_ble_eq_true rfl) (Nat.le_of_ble_eq_true rfl) (Nat.le_of_ble_eq_true rfl) (Nat.le_of_ble_eq_true rfl) hlocks (Or.inr ⟨rfl, c_4, c_8⟩) (Nat.le_of_ble_eq_true rfl) (Nat.le_of_ble_eq_true rfl)
  · exact th_S (l := l) hx hb hl0 hown (by decide +kernel) (hts (.classLink RX0 155 UOE) (by decide +kernel)) (hts (.initialized UOE) (by decide +kernel)) (xS_165 hX.2.1) (fun w h => hts w (List.mem_cons_of_mem _ (List.mem_append_left _ (List.mem_append_right _ h)))) xn_UOE hX.2.2.2.2.2.1 xg_UOE hX (by rw [hml]; exact hl.1) dX0_needMayShut_19 dX0_needMayShut_22 dX0_needMayShut_23 dX0_needMayShut_25 dX0_needMayShut_28 hno (Nat.le_of_ble_eq_true rfl) (Nat.le_of_ble_eq_true rfl) (Nat.le_of_ble_eq_true rfl) (Nat.le_of_ble_eq_true rfl) hlocks (Or.inl ⟨rfl, c_4⟩) (Nat.le_of_ble_eq_true rfl) (Nat.le_of_ble_eq_true rfl)
