/-! The law's wrappers: they call, and catch. -/
def b2l : Bool → Int64
  | true => 1
  | false => 0
abbrev TYL (cZ cD cI cJ : ClassId) : List (ClassId × FieldType) := [(cZ, .boolean), (cD, .double), (cI, .int), (cJ, .long)]
def xN (U : State) : Prop := va_Nc ISE IAE U ∧ va_Nc NSE IAE U ∧ va_Nc UOE ISE U ∧ va_Nc AE ISE U ∧ va_Nc AE UOE U
theorem xN.moved {u U : State} (hvm : u.vm.Alike U.vm) (h : xN u) : xN U := ⟨h.1.moved hvm, h.2.1.moved hvm, h.2.2.1.moved hvm, h.2.2.2.1.moved hvm, h.2.2.2.2.moved hvm⟩
section WK
variable {p : Program} {l : Launch} {e : Env} {R : Room} {s : State} {m : MethodId} {args : Array Value} {below : List Frame} {meth : Method} {c : Code} {H : Heap} {locs : List Loc} {cells slots : Nat} {Q : State → Prop}
variable {cc : ByteArray} {pc mc ms : Nat} {ls : Array Slot} {rest st0 : List Value} {a : Array Value} {px : String → Prop}
theorem rdm_calld {post : UInt64 → Prop} (hr : va_Run p l e R s m args below meth c H locs cells slots mc ms (F0 m pc ls st0) rest (rd_Qd post a) (fun _ => False))
    (kk : ∀ r : UInt64, post r → W p l e R s m args below meth c H locs (cells + mc) (slots + ms) Q (F0 m (pc + 3) ls (.double r :: rest))) : W p l e R s m args below meth c H locs cells slots Q (F0 m pc ls st0) := by
  intro T hT X
  obtain ⟨v, st₀, t, T', L, h0, X', hL, e1, e2, ⟨⟨r, hv, hp⟩, hh⟩, st⟩ := hr T hT X
  cases hv
  cases rd_nil hL
  rw [List.append_nil] at X'
  obtain ⟨t2, a1, b1⟩ := kk r hp T' (by rw [e1, hh, h0]) X'
  exact ⟨t2, st t2 a1, b1⟩
theorem rdm_callf {post : UInt32 → Prop} (hr : va_Run p l e R s m args below meth c H locs cells slots mc ms (F0 m pc ls st0) rest (rd_Qf post a) (fun _ => False))
    (kk : ∀ r : UInt32, post r → W p l e R s m args below meth c H locs (cells + mc) (slots + ms) Q (F0 m (pc + 3) ls (.float r :: rest))) : W p l e R s m args below meth c H locs cells slots Q (F0 m pc ls st0) := by
  intro T hT X
  obtain ⟨v, st₀, t, T', L, h0, X', hL, e1, e2, ⟨⟨r, hv, hp⟩, hh⟩, st⟩ := hr T hT X
  cases hv
  cases rd_nil hL
  rw [List.append_nil] at X'
  obtain ⟨t2, a1, b1⟩ := kk r hp T' (by rw [e1, hh, h0]) X'
  exact ⟨t2, st t2 a1, b1⟩
theorem kv_never (hr : vx_Run p l e R s m args below meth c H locs cells slots mc ms (F0 m pc ls st0) rest (fun _ _ _ => False) (rd_X px) (fun _ => False))
    (kx : ∀ (E : String) (ce : Cell) (q9 : Addr) (H1 : Heap), px E → H.size ≤ H1.size → (∀ q : Nat, q < H.size → H1[q]? = H[q]?) → H1[q9]? = some ce → ce.vm = .none → s.vm.findClass E = some ce.cls → vx_W p l e R s m args below meth c H1 locs (cells + mc) (slots + ms) Q (F0 m pc ls rest) q9) : W p l e R s m args below meth c H locs cells slots Q (F0 m pc ls st0) := by
  intro T hT X
  rcases hr T hT X with ⟨v, st₀, t, T', L, h0, X', hL, e1, e2, hf, st⟩ | ⟨q, st₀, t, T', L, E, ce, h0, X', hL, e1, e2, ⟨hp, hF⟩, hce, hcv, hcl, st⟩
  · exact hf.elim
  · cases rd_nil hL
    rw [List.append_nil] at X'
    unfold va_F at hF
    rw [h0] at hF
    obtain ⟨t2, a1, b1⟩ := kx E ce q T'.heap hp (by rw [e1]; exact hF.1) (fun z hz => by rw [e1]; exact hF.2 z hz (fun f => f)) (by rw [e1]; exact hce) hcv hcl T' rfl X'
    exact ⟨t2, st.trans a1, b1⟩
variable {D : va_G} {cl : List vw_C} {A : Nat → Prop} {ad : Nat} {tys : List (ClassId × FieldType)} {ws : va_W} {H0 : Heap}
theorem kn_last (hx : p.tables.exec = Jvm.exec) (hb : c.code = cc) (hK : va_K D cl tys s) (hP : va_P D cl ws H) (hD : va_D A ws) (hS : va_S A H0 H locs) (q0 t0 : Nat) {cA : ClassId} {n : Nat} {f : Nat → Int64} (ha : ws[q0]? = some (ad, .inl (cA, n, .inr (.inl f)))) (ht : tys[t0]? = some (cA, .long)) {i : Nat} {x : Int64} (hi : i < n) (hn : n < 2147483648) (hdg : decode cc pc = .ok (.lastore, 1))
    (kk : ∀ (H1 : Heap) (locs1 : List Loc), va_P D cl (ws.set q0 (ad, .inl (cA, n, .inr (.inl (up f i x))))) H1 → va_D A (ws.set q0 (ad, .inl (cA, n, .inr (.inl (up f i x))))) → va_S A H0 H1 locs1 → W p l e R s m args below meth c H1 locs1 cells slots Q (F0 m (pc + 1) ls rest)) : W p l e R s m args below meth c H locs cells slots Q (F0 m pc ls (.long x :: .int (nI i) :: .ref ad :: rest)) := by
  refine va_last hx hb hK hP hD hS q0 t0 ha ht (vp_in_nI hi hn) hdg ?_
  rw [nI_clamp (Nat.lt_trans hi hn), show vp_updL f i x = up f i x from rfl]
  exact kk
theorem kt_l {x y : Int64} (h : x = y) (k : W p l e R s m args below meth c H locs cells slots Q (F0 m pc ls (.long y :: rest))) : W p l e R s m args below meth c H locs cells slots Q (F0 m pc ls (.long x :: rest)) := by subst h; exact k
theorem kn_lald (hx : p.tables.exec = Jvm.exec) (hb : c.code = cc) (hK : va_K D cl tys s) (hP : va_P D cl ws H) (q0 t0 : Nat) {cA : ClassId} {n : Nat} {f : Nat → Int64} (ha : ws[q0]? = some (ad, .inl (cA, n, .inr (.inl f)))) (ht : tys[t0]? = some (cA, .long)) {i : Nat} (hi : i < n) (hn : n < 2147483648) (hdg : decode cc pc = .ok (.laload, 1))
    (kk : W p l e R s m args below meth c H locs cells slots Q (F0 m (pc + 1) ls (.long (f i) :: rest))) : W p l e R s m args below meth c H locs cells slots Q (F0 m pc ls (.int (nI i) :: .ref ad :: rest)) :=
  va_lald hx hb hK hP q0 t0 ha ht (vp_in_nI hi hn) hdg (kt_l (by rw [nI_clamp (Nat.lt_trans hi hn)]) kk)
end WK
set_option maxHeartbeats 4000000 in
set_option maxRecDepth 100000 in
theorem c_X1_thrown (l : Launch) (D : va_G) (k0 kv ko ks km kt kp kb : Nat) (cZ cD cI : ClassId) (th : Nat) (mv : Nat → UInt64) (io : Nat → Bool) (sz : Nat → Nat) (mk : Nat → UInt64) (se : Nat → Bool) (pv : Nat → UInt64) (pd : Nat → Bool) (op : Bool) (mw : Int32) (hsz : ∀ j, sz j ≤ 12)  : Met l yX1_thrown wsX1_thrown ({ frames := 0, cells := 0, slots := 0, locals := 0 }) (va_Pc [.ref k0] (fun U => va_P D vwCl (WM k0 kv ko ks km kt kp kb cZ cD cI th mv io sz mk se pv pd op mw) U.heap ∧ va_K D vwCl (TY cZ cD cI) U)) (rd_Qi (fun r => r = nI th)) 0 0 (fun _ => False) := by
  refine Met.ofW (cc := cX1_thrown) (maxL := 1) (ret := some .int) (by decide) rfl ?_
  intro p e s m args below meth c s₁ B hml hv
  obtain ⟨rfl, hP, hK⟩ := hv
  have hx := B.exec
  have hb := B.bytes
  have hr := B.returns
  have hts := atoms_spec (ws := wsX1_thrown) B.pre
  have hown : s.vm.findClass RX1 = some m.cls := findClass_of_methodNamed B.named
  have hlocks := B.notSynchronized
  have hl := lv_entry ([.ref k0]) (n := 1) (Nat.le_of_ble_eq_true rfl)
  rw [lg_entry_eq]
  generalize (lg_sl ([.ref k0]) ++ List.replicate (1 - (lg_sl ([.ref k0])).length) Slot.unset).toArray = ls at hl ⊢
  have hl : lv_has ls 1 [(0, .ref k0)] := hl
  have hinRX1 : ∀ w ∈ wsX10, w ∈ wsX1_thrown := by decide +kernel
  have hf_33 := hts (.fieldLink RX1 33 "HarbourBoardModel" "thrown" "I") (by decide +kernel)
  refine lv_aload_n hx hb dX1_thrown_0 rfl (lv_at hl 0 rfl) ?_
  refine va_get (D := D) (ci := 2) (v := .int (nI th)) (C := RX1) (T := TX1) (N := 10) hx hb hts hinRX1 hown hK hP 0 rfl rfl 0 (by decide) hf_33 (fun _ h9 => h9) rfl dX1_thrown_1 ?_
  exact W.iret (v := nI th) hx hb hr (fun t9 ht9 hW9 => ⟨⟨_, rfl, rfl⟩, ht9⟩) (fun q hq => absurd hq List.not_mem_nil) dX1_thrown_4
set_option maxHeartbeats 4000000 in
set_option maxRecDepth 100000 in
theorem w_level (l : Launch) (D : va_G) (h0 hn hd hq qo : Nat) (cZ cD cI cJ : ClassId) (nb : Nat → Bool) (v : Nat → UInt64) (ln : Nat → Nat) (go : Bool) (mv : Int32) (oL : Nat → Int64) (hln : ∀ j, ln j ≤ 12) (hl0 : l.stackTraces = false) (zz : Nat) (g : Nat) (x : UInt64) (hg : g < 6) (hlv : lvl x = true) (hrm : ln (g * 2 + 0) < 12) : Met l yL_level wsL_level ({ frames := 9, cells := 3, slots := 18, locals := 149 }) (va_Pc [.ref h0, .int (nI g), .double x, .ref qo] (fun U => xOK U ∧ xN U ∧ U.heap.size = zz ∧ va_P D vwCl [(h0, .inr (1, [.ref hn, .ref hd, .ref hq, .int (b2i go), .int mv])), (hn, .inl (cZ, 165, .inl (fun j => b2i (nb j)))), (hd, .inl (cD, 165, .inr (.inr (.inr (.inl v))))), (hq, .inl (cI, 12, .inl (fun j => nI (ln j)))), (qo, .inl (cJ, 1, .inr (.inl oL)))] U.heap ∧ va_K D vwCl (TYL cZ cD cI cJ) U ∧ va_D (fun _ => True) [(h0, .inr (1, [.ref hn, .ref hd, .ref hq, .int (b2i go), .int mv])), (hn, .inl (cZ, 165, .inl (fun j => b2i (nb j)))), (hd, .inl (cD, 165, .inr (.inr (.inr (.inl v))))), (hq, .inl (cI, 12, .inl (fun j => nI (ln j)))), (qo, .inl (cJ, 1, .inr (.inl oL)))])) (wr_Qi (fun r => r = nI 0) (fun H => va_P D vwCl [(h0, .inr (1, [.ref hn, .ref hd, .ref hq, .int (b2i go), .int mv])), (hn, .inl (cZ, 165, .inl (fun j => b2i (((up nb ((g * 2 + 0) * 12 + ln (g * 2 + 0)) true)) j)))), (hd, .inl (cD, 165, .inr (.inr (.inr (.inl ((up v ((g * 2 + 0) * 12 + ln (g * 2 + 0)) x))))))), (hq, .inl (cI, 12, .inl (fun j => nI (((up ln (g * 2 + 0) (ln (g * 2 + 0) + 1))) j)))), (qo, .inl (cJ, 1, .inr (.inl (up oL 0 (Int32.toInt64 (nI (ln (g * 2 + 0) + 1)))))))] H) (va_A [(h0, .inr (1, [.ref hn, .ref hd, .ref hq, .int (b2i go), .int mv])), (hn, .inl (cZ, 165, .inl (fun j => b2i (nb j)))), (hd, .inl (cD, 165, .inr (.inr (.inr (.inl v))))), (hq, .inl (cI, 12, .inl (fun j => nI (ln j)))), (qo, .inl (cJ, 1, .inr (.inl oL)))] zz)) 3 18 (va_A [(h0, .inr (1, [.ref hn, .ref hd, .ref hq, .int (b2i go), .int mv])), (hn, .inl (cZ, 165, .inl (fun j => b2i (nb j)))), (hd, .inl (cD, 165, .inr (.inr (.inr (.inl v))))), (hq, .inl (cI, 12, .inl (fun j => nI (ln j)))), (qo, .inl (cJ, 1, .inr (.inl oL)))] zz) := by
  refine met_of_vx (vx_ofWH (cc := cL_level) (maxL := 6) (ret := some .int) (hh := [(0, 11, 14, 13), (0, 11, 18, 15)]) (by decide) rfl ?_)
  intro p e s m args below meth c s₁ B hml hv
  obtain ⟨rfl, hX, hN, hsz_, hP, hK, hD0⟩ := hv
  have hx := B.exec
  have hb := B.bytes
  have hr := B.returns
  have hts := atoms_spec (ws := wsL_level) B.pre
  have hown : s.vm.findClass RL = some m.cls := findClass_of_methodNamed B.named
  have hlocks := B.notSynchronized
  have htab := vx_table (x := yL_level) (hh := [(0, 11, 14, 13), (0, 11, 18, 15)]) B (hts _ List.mem_cons_self)
  subst hsz_
  have hD := hD0.self (sz := s.heap.size)
  generalize hAe : va_A [(h0, .inr (1, [.ref hn, .ref hd, .ref hq, .int (b2i go), .int mv])), (hn, .inl (cZ, 165, .inl (fun j => b2i (nb j)))), (hd, .inl (cD, 165, .inr (.inr (.inr (.inl v))))), (hq, .inl (cI, 12, .inl (fun j => nI (ln j)))), (qo, .inl (cJ, 1, .inr (.inl oL)))] s.heap.size = A at hD ⊢
  have hA : ∀ q : Nat, s.heap.size ≤ q → A q := fun q h => by rw [← hAe]; exact Or.inr h
  have hS : va_S A s.heap s.heap [] := va_S.rf
  have hl := lv_entry ([.ref h0, .int (nI g), .double x, .ref qo]) (n := 6) (Nat.le_of_ble_eq_true rfl)
  rw [lg_entry_eq]
  generalize (lg_sl ([.ref h0, .int (nI g), .double x, .ref qo]) ++ List.replicate (6 - (lg_sl ([.ref h0, .int (nI g), .double x, .ref qo])).length) Slot.unset).toArray = ls at hl ⊢
  have hl : lv_has ls 6 [(0, .ref h0), (1, .int (nI g)), (2, .double x), (4, .ref qo)] := hl
  refine lv_aload hx hb dL_level_0 (lv_at hl 3 rfl) ?_
  refine lv_iconst (v := nI 0) hx hb dL_level_2 (by decide) ?_
  refine lv_aload_n hx hb dL_level_3 rfl (lv_at hl 0 rfl) ?_
  refine lv_iload_n hx hb dL_level_4 rfl (lv_at hl 1 rfl) ?_
  refine lv_dload_n hx hb dL_level_5 rfl (lv_at hl 2 rfl) ?_
  have hPc : va_P D vwCl (WB h0 hn hd hq cZ cD cI nb v ln go mv) s.heap := hP.sub [0, 1, 2, 3] rfl
  have hDc : va_D A (WB h0 hn hd hq cZ cD cI nb v ln go mv) := hD.sub [0, 1, 2, 3] (by decide) rfl
  have hKc : va_K D vwCl (TY cZ cD cI) s := hK.sub [0, 1, 2] rfl
  have hFc := va_free (wc := WB h0 hn hd hq cZ cD cI nb v ln go mv) hD hS hA [0, 1, 2, 3] rfl
  refine wr_calli (va_runV (As := [.int (nI g), .double x]) (rest := [.int (nI 0), .ref qo]) ⟨hx, hb, hml, hown, hts⟩ (c_X0_level l D h0 hn hd hq cZ cD cI nb v ln go mv hln hl0 s.heap.size g x hg hlv hrm) (cwV 2 hts gL_level_X0_level rfl rfl rfl (by decide +kernel) ⟨Nat.le_of_ble_eq_true rfl, Nat.le_of_ble_eq_true rfl⟩) ⟨fun a U g mk q => ⟨q.1, xOK_call q.2.1 g mk a, q.2.2.1, q.2.2.2.1, va_K.moved (u := U) (U := U.calling g mk a) (Vm.Alike.refl U.vm) q.2.2.2.2.1, q.2.2.2.2.2⟩, va_recv hKc hPc (ci := 1) (q0 := 0) rfl rfl, fun U hU hW => ⟨rfl, xOK_at hX hU hW, by rw [hU], by rw [hU]; exact hPc, va_K.moved hW.alike hKc, hDc.weaken (fun _ _ _ _ => trivial)⟩⟩ rfl rfl hl.1 rfl (lv_room (Nat.le_of_ble_eq_true rfl)) dL_level_6 ⟨Nat.le_of_ble_eq_true rfl, Nat.le_of_ble_eq_true rfl⟩) hS hFc (fun r_1 H locs hr_1 hP1 hz1 hk1 hS => ?_)
  subst hr_1
  obtain ⟨hP, -⟩ := va_join (wr := [(qo, .inl (cJ, 1, .inr (.inl oL)))]) (w1 := WB h0 hn hd hq cZ cD cI (up nb ((g * 2 + 0) * 12 + ln (g * 2 + 0)) true) (up v ((g * 2 + 0) * 12 + ln (g * 2 + 0)) x) (up ln (g * 2 + 0) (ln (g * 2 + 0) + 1)) go mv) hP hD [0, 1, 2, 3] [4] rfl rfl (by decide) (by decide) hk1 hFc hP1 (va_D_same (ws := WB h0 hn hd hq cZ cD cI nb v ln go mv) rfl (hDc.self (sz := s.heap.size)))
  have hP : va_P D vwCl [(h0, .inr (1, [.ref hn, .ref hd, .ref hq, .int (b2i go), .int mv])), (hn, .inl (cZ, 165, .inl (fun j => b2i (((up nb ((g * 2 + 0) * 12 + ln (g * 2 + 0)) true)) j)))), (hd, .inl (cD, 165, .inr (.inr (.inr (.inl ((up v ((g * 2 + 0) * 12 + ln (g * 2 + 0)) x))))))), (hq, .inl (cI, 12, .inl (fun j => nI (((up ln (g * 2 + 0) (ln (g * 2 + 0) + 1))) j)))), (qo, .inl (cJ, 1, .inr (.inl oL)))] H := hP.sub [1, 2, 3, 4, 0] rfl
  have hD : va_D A [(h0, .inr (1, [.ref hn, .ref hd, .ref hq, .int (b2i go), .int mv])), (hn, .inl (cZ, 165, .inl (fun j => b2i (((up nb ((g * 2 + 0) * 12 + ln (g * 2 + 0)) true)) j)))), (hd, .inl (cD, 165, .inr (.inr (.inr (.inl ((up v ((g * 2 + 0) * 12 + ln (g * 2 + 0)) x))))))), (hq, .inl (cI, 12, .inl (fun j => nI (((up ln (g * 2 + 0) (ln (g * 2 + 0) + 1))) j)))), (qo, .inl (cJ, 1, .inr (.inl oL)))] := va_D_same (ws := [(h0, .inr (1, [.ref hn, .ref hd, .ref hq, .int (b2i go), .int mv])), (hn, .inl (cZ, 165, .inl (fun j => b2i (nb j)))), (hd, .inl (cD, 165, .inr (.inr (.inr (.inl v))))), (hq, .inl (cI, 12, .inl (fun j => nI (ln j)))), (qo, .inl (cJ, 1, .inr (.inl oL)))]) rfl hD
  refine lv_i2l hx hb dL_level_9 rfl ?_
  refine kn_last hx hb hK hP hD hS 4 3 rfl rfl (by omega) (by decide) dL_level_10 (fun H locs hP hD hS => ?_)
  have hP : va_P D vwCl ([(h0, .inr (1, [.ref hn, .ref hd, .ref hq, .int (b2i go), .int mv])), (hn, .inl (cZ, 165, .inl (fun j => b2i (((up nb ((g * 2 + 0) * 12 + ln (g * 2 + 0)) true)) j)))), (hd, .inl (cD, 165, .inr (.inr (.inr (.inl ((up v ((g * 2 + 0) * 12 + ln (g * 2 + 0)) x))))))), (hq, .inl (cI, 12, .inl (fun j => nI (((up ln (g * 2 + 0) (ln (g * 2 + 0) + 1))) j)))), (qo, .inl (cJ, 1, .inr (.inl (up oL 0 (Int32.toInt64 (nI (ln (g * 2 + 0) + 1)))))))]) H := hP
  have hD : va_D A ([(h0, .inr (1, [.ref hn, .ref hd, .ref hq, .int (b2i go), .int mv])), (hn, .inl (cZ, 165, .inl (fun j => b2i (((up nb ((g * 2 + 0) * 12 + ln (g * 2 + 0)) true)) j)))), (hd, .inl (cD, 165, .inr (.inr (.inr (.inl ((up v ((g * 2 + 0) * 12 + ln (g * 2 + 0)) x))))))), (hq, .inl (cI, 12, .inl (fun j => nI (((up ln (g * 2 + 0) (ln (g * 2 + 0) + 1))) j)))), (qo, .inl (cJ, 1, .inr (.inl (up oL 0 (Int32.toInt64 (nI (ln (g * 2 + 0) + 1)))))))]) := hD
  refine lv_goto (tgt := 22) hx hb dL_level_11 (by decide) ?_
  refine lv_iconst (v := nI 0) hx hb dL_level_22 (by decide) ?_
  refine vx_ret ?_
  refine W.widen (k := 3) (n := 18) (Nat.le_of_ble_eq_true rfl) (Nat.le_of_ble_eq_true rfl) ?_
  exact W.iret (v := nI 0) hx hb hr (fun t9 ht9 hW9 => ⟨⟨_, rfl, rfl, by rw [ht9]; exact hP⟩, hS.F ht9⟩) hS.2.2 dL_level_23
set_option maxHeartbeats 4000000 in
set_option maxRecDepth 100000 in
theorem w_level_full (l : Launch) (D : va_G) (h0 hn hd hq qo : Nat) (cZ cD cI cJ : ClassId) (nb : Nat → Bool) (v : Nat → UInt64) (ln : Nat → Nat) (go : Bool) (mv : Int32) (oL : Nat → Int64) (hln : ∀ j, ln j ≤ 12) (hl0 : l.stackTraces = false) (zz : Nat) (g : Nat) (x : UInt64) (hg : g < 6) (hlv : lvl x = true) (hfull : ln (g * 2 + 0) = 12) : Met l yL_level wsL_level ({ frames := 9, cells := 3, slots := 18, locals := 149 }) (va_Pc [.ref h0, .int (nI g), .double x, .ref qo] (fun U => xOK U ∧ xN U ∧ U.heap.size = zz ∧ va_P D vwCl [(h0, .inr (1, [.ref hn, .ref hd, .ref hq, .int (b2i go), .int mv])), (hn, .inl (cZ, 165, .inl (fun j => b2i (nb j)))), (hd, .inl (cD, 165, .inr (.inr (.inr (.inl v))))), (hq, .inl (cI, 12, .inl (fun j => nI (ln j)))), (qo, .inl (cJ, 1, .inr (.inl oL)))] U.heap ∧ va_K D vwCl (TYL cZ cD cI cJ) U ∧ va_D (fun _ => True) [(h0, .inr (1, [.ref hn, .ref hd, .ref hq, .int (b2i go), .int mv])), (hn, .inl (cZ, 165, .inl (fun j => b2i (nb j)))), (hd, .inl (cD, 165, .inr (.inr (.inr (.inl v))))), (hq, .inl (cI, 12, .inl (fun j => nI (ln j)))), (qo, .inl (cJ, 1, .inr (.inl oL)))])) (wr_Qi (fun r => r = nI 2) (fun H => va_P D vwCl [(h0, .inr (1, [.ref hn, .ref hd, .ref hq, .int (b2i go), .int mv])), (hn, .inl (cZ, 165, .inl (fun j => b2i (nb j)))), (hd, .inl (cD, 165, .inr (.inr (.inr (.inl v))))), (hq, .inl (cI, 12, .inl (fun j => nI (ln j)))), (qo, .inl (cJ, 1, .inr (.inl oL)))] H) (va_A [(h0, .inr (1, [.ref hn, .ref hd, .ref hq, .int (b2i go), .int mv])), (hn, .inl (cZ, 165, .inl (fun j => b2i (nb j)))), (hd, .inl (cD, 165, .inr (.inr (.inr (.inl v))))), (hq, .inl (cI, 12, .inl (fun j => nI (ln j)))), (qo, .inl (cJ, 1, .inr (.inl oL)))] zz)) 3 18 (va_A [(h0, .inr (1, [.ref hn, .ref hd, .ref hq, .int (b2i go), .int mv])), (hn, .inl (cZ, 165, .inl (fun j => b2i (nb j)))), (hd, .inl (cD, 165, .inr (.inr (.inr (.inl v))))), (hq, .inl (cI, 12, .inl (fun j => nI (ln j)))), (qo, .inl (cJ, 1, .inr (.inl oL)))] zz) := by
  refine met_of_vx (vx_ofWH (cc := cL_level) (maxL := 6) (ret := some .int) (hh := [(0, 11, 14, 13), (0, 11, 18, 15)]) (by decide) rfl ?_)
  intro p e s m args below meth c s₁ B hml hv
  obtain ⟨rfl, hX, hN, hsz_, hP, hK, hD0⟩ := hv
  have hx := B.exec
  have hb := B.bytes
  have hr := B.returns
  have hts := atoms_spec (ws := wsL_level) B.pre
  have hown : s.vm.findClass RL = some m.cls := findClass_of_methodNamed B.named
  have hlocks := B.notSynchronized
  have htab := vx_table (x := yL_level) (hh := [(0, 11, 14, 13), (0, 11, 18, 15)]) B (hts _ List.mem_cons_self)
  subst hsz_
  have hD := hD0.self (sz := s.heap.size)
  generalize hAe : va_A [(h0, .inr (1, [.ref hn, .ref hd, .ref hq, .int (b2i go), .int mv])), (hn, .inl (cZ, 165, .inl (fun j => b2i (nb j)))), (hd, .inl (cD, 165, .inr (.inr (.inr (.inl v))))), (hq, .inl (cI, 12, .inl (fun j => nI (ln j)))), (qo, .inl (cJ, 1, .inr (.inl oL)))] s.heap.size = A at hD ⊢
  have hA : ∀ q : Nat, s.heap.size ≤ q → A q := fun q h => by rw [← hAe]; exact Or.inr h
  have hS : va_S A s.heap s.heap [] := va_S.rf
  have hl := lv_entry ([.ref h0, .int (nI g), .double x, .ref qo]) (n := 6) (Nat.le_of_ble_eq_true rfl)
  rw [lg_entry_eq]
  generalize (lg_sl ([.ref h0, .int (nI g), .double x, .ref qo]) ++ List.replicate (6 - (lg_sl ([.ref h0, .int (nI g), .double x, .ref qo])).length) Slot.unset).toArray = ls at hl ⊢
  have hl : lv_has ls 6 [(0, .ref h0), (1, .int (nI g)), (2, .double x), (4, .ref qo)] := hl
  refine lv_aload hx hb dL_level_0 (lv_at hl 3 rfl) ?_
  refine lv_iconst (v := nI 0) hx hb dL_level_2 (by decide) ?_
  refine lv_aload_n hx hb dL_level_3 rfl (lv_at hl 0 rfl) ?_
  refine lv_iload_n hx hb dL_level_4 rfl (lv_at hl 1 rfl) ?_
  refine lv_dload_n hx hb dL_level_5 rfl (lv_at hl 2 rfl) ?_
  have hPc : va_P D vwCl (WB h0 hn hd hq cZ cD cI nb v ln go mv) s.heap := hP.sub [0, 1, 2, 3] rfl
  have hDc : va_D A (WB h0 hn hd hq cZ cD cI nb v ln go mv) := hD.sub [0, 1, 2, 3] (by decide) rfl
  have hKc : va_K D vwCl (TY cZ cD cI) s := hK.sub [0, 1, 2] rfl
  refine kv_never (vx_runV (As := [.int (nI g), .double x]) (rest := [.int (nI 0), .ref qo]) ⟨hx, hb, hml, hown, hts⟩ (c_X0_level_full l D h0 hn hd hq cZ cD cI nb v ln go mv hln hl0 g x hg hlv hfull) (cwV 2 hts gL_level_X0_level rfl rfl rfl (by decide +kernel) ⟨Nat.le_of_ble_eq_true rfl, Nat.le_of_ble_eq_true rfl⟩) ⟨fun a U g mk q => ⟨q.1, xOK_call q.2.1 g mk a, q.2.2.1, va_K.moved (u := U) (U := U.calling g mk a) (Vm.Alike.refl U.vm) q.2.2.2⟩, va_recv hKc hPc (ci := 1) (q0 := 0) rfl rfl, fun U hU hW => ⟨rfl, xOK_at hX hU hW, by rw [hU]; exact hPc, va_K.moved hW.alike hKc⟩⟩ rfl rfl hl.1 rfl (lv_room (Nat.le_of_ble_eq_true rfl)) dL_level_6 ⟨Nat.le_of_ble_eq_true rfl, Nat.le_of_ble_eq_true rfl⟩) (fun E9 ce q9 H hE h1 h2 h3 h4 h5 => ?_)
  subst hE
  have hP : va_P D vwCl [(h0, .inr (1, [.ref hn, .ref hd, .ref hq, .int (b2i go), .int mv])), (hn, .inl (cZ, 165, .inl (fun j => b2i (nb j)))), (hd, .inl (cD, 165, .inr (.inr (.inr (.inl v))))), (hq, .inl (cI, 12, .inl (fun j => nI (ln j)))), (qo, .inl (cJ, 1, .inr (.inl oL)))] H := hP.kept (fun k q hk => h2 q.1 (vx_lt hP hk))
  have hS : va_S A s.heap H [] := ⟨h1, fun q hq _ => h2 q hq, fun q hq => absurd hq List.not_mem_nil⟩
  refine vx_catch (E := ISE) (name := ISE) hown [⟨0, 11, 14, 13⟩] ⟨0, 11, 18, 15⟩ [] htab (fun z hz => (List.mem_cons.mp hz).elim (fun e9 => by rw [e9]; exact Or.inr ⟨by decide, IAE, hts (.classLink RL 13 IAE) (by decide +kernel), hN.1⟩) (fun hz => absurd hz List.not_mem_nil)) (by decide) (by decide) (hts (.classLink RL 15 ISE) (by decide +kernel)) (xC.word hX.2.2.2.2.1) h3 h4 h5 ?_
  show W p l e _ s m _ below meth c H [] _ _ _ (F0 m 18 ls [.ref q9])
  refine lv_astore (lv' := [(5, .ref q9), (0, .ref h0), (1, .int (nI g)), (2, .double x), (4, .ref qo)]) hx hb dL_level_18 hl (by decide) rfl (fun ls hl => ?_)
  refine lv_iconst (v := nI 2) hx hb dL_level_20 (by decide) ?_
  refine vx_ret ?_
  refine W.widen (k := 3) (n := 18) (Nat.le_of_ble_eq_true rfl) (Nat.le_of_ble_eq_true rfl) ?_
  exact W.iret (v := nI 2) hx hb hr (fun t9 ht9 hW9 => ⟨⟨_, rfl, rfl, by rw [ht9]; exact hP⟩, hS.F ht9⟩) hS.2.2 dL_level_21
set_option maxHeartbeats 4000000 in
set_option maxRecDepth 100000 in
theorem w_level_bad (l : Launch) (D : va_G) (h0 hn hd hq qo : Nat) (cZ cD cI cJ : ClassId) (nb : Nat → Bool) (v : Nat → UInt64) (ln : Nat → Nat) (go : Bool) (mv : Int32) (oL : Nat → Int64) (hln : ∀ j, ln j ≤ 12) (hl0 : l.stackTraces = false) (zz : Nat) (x0 : Int32) (y : UInt64) (hbad : ¬ (InN 6 x0 ∧ lvl y = true)) : Met l yL_level wsL_level ({ frames := 8, cells := 2, slots := 12, locals := 126 }) (va_Pc [.ref h0, .int x0, .double y, .ref qo] (fun U => xOK U ∧ xN U ∧ U.heap.size = zz ∧ va_P D vwCl [(h0, .inr (1, [.ref hn, .ref hd, .ref hq, .int (b2i go), .int mv])), (hn, .inl (cZ, 165, .inl (fun j => b2i (nb j)))), (hd, .inl (cD, 165, .inr (.inr (.inr (.inl v))))), (hq, .inl (cI, 12, .inl (fun j => nI (ln j)))), (qo, .inl (cJ, 1, .inr (.inl oL)))] U.heap ∧ va_K D vwCl (TYL cZ cD cI cJ) U ∧ va_D (fun _ => True) [(h0, .inr (1, [.ref hn, .ref hd, .ref hq, .int (b2i go), .int mv])), (hn, .inl (cZ, 165, .inl (fun j => b2i (nb j)))), (hd, .inl (cD, 165, .inr (.inr (.inr (.inl v))))), (hq, .inl (cI, 12, .inl (fun j => nI (ln j)))), (qo, .inl (cJ, 1, .inr (.inl oL)))])) (wr_Qi (fun r => r = nI 1) (fun H => va_P D vwCl [(h0, .inr (1, [.ref hn, .ref hd, .ref hq, .int (b2i go), .int mv])), (hn, .inl (cZ, 165, .inl (fun j => b2i (nb j)))), (hd, .inl (cD, 165, .inr (.inr (.inr (.inl v))))), (hq, .inl (cI, 12, .inl (fun j => nI (ln j)))), (qo, .inl (cJ, 1, .inr (.inl oL)))] H) (va_A [(h0, .inr (1, [.ref hn, .ref hd, .ref hq, .int (b2i go), .int mv])), (hn, .inl (cZ, 165, .inl (fun j => b2i (nb j)))), (hd, .inl (cD, 165, .inr (.inr (.inr (.inl v))))), (hq, .inl (cI, 12, .inl (fun j => nI (ln j)))), (qo, .inl (cJ, 1, .inr (.inl oL)))] zz)) 2 12 (va_A [(h0, .inr (1, [.ref hn, .ref hd, .ref hq, .int (b2i go), .int mv])), (hn, .inl (cZ, 165, .inl (fun j => b2i (nb j)))), (hd, .inl (cD, 165, .inr (.inr (.inr (.inl v))))), (hq, .inl (cI, 12, .inl (fun j => nI (ln j)))), (qo, .inl (cJ, 1, .inr (.inl oL)))] zz) := by
  refine met_of_vx (vx_ofWH (cc := cL_level) (maxL := 6) (ret := some .int) (hh := [(0, 11, 14, 13), (0, 11, 18, 15)]) (by decide) rfl ?_)
  intro p e s m args below meth c s₁ B hml hv
  obtain ⟨rfl, hX, hN, hsz_, hP, hK, hD0⟩ := hv
  have hx := B.exec
  have hb := B.bytes
  have hr := B.returns
  have hts := atoms_spec (ws := wsL_level) B.pre
  have hown : s.vm.findClass RL = some m.cls := findClass_of_methodNamed B.named
  have hlocks := B.notSynchronized
  have htab := vx_table (x := yL_level) (hh := [(0, 11, 14, 13), (0, 11, 18, 15)]) B (hts _ List.mem_cons_self)
  subst hsz_
  have hD := hD0.self (sz := s.heap.size)
  generalize hAe : va_A [(h0, .inr (1, [.ref hn, .ref hd, .ref hq, .int (b2i go), .int mv])), (hn, .inl (cZ, 165, .inl (fun j => b2i (nb j)))), (hd, .inl (cD, 165, .inr (.inr (.inr (.inl v))))), (hq, .inl (cI, 12, .inl (fun j => nI (ln j)))), (qo, .inl (cJ, 1, .inr (.inl oL)))] s.heap.size = A at hD ⊢
  have hA : ∀ q : Nat, s.heap.size ≤ q → A q := fun q h => by rw [← hAe]; exact Or.inr h
  have hS : va_S A s.heap s.heap [] := va_S.rf
  have hl := lv_entry ([.ref h0, .int x0, .double y, .ref qo]) (n := 6) (Nat.le_of_ble_eq_true rfl)
  rw [lg_entry_eq]
  generalize (lg_sl ([.ref h0, .int x0, .double y, .ref qo]) ++ List.replicate (6 - (lg_sl ([.ref h0, .int x0, .double y, .ref qo])).length) Slot.unset).toArray = ls at hl ⊢
  have hl : lv_has ls 6 [(0, .ref h0), (1, .int x0), (2, .double y), (4, .ref qo)] := hl
  refine lv_aload hx hb dL_level_0 (lv_at hl 3 rfl) ?_
  refine lv_iconst (v := nI 0) hx hb dL_level_2 (by decide) ?_
  refine lv_aload_n hx hb dL_level_3 rfl (lv_at hl 0 rfl) ?_
  refine lv_iload_n hx hb dL_level_4 rfl (lv_at hl 1 rfl) ?_
  refine lv_dload_n hx hb dL_level_5 rfl (lv_at hl 2 rfl) ?_
  have hPc : va_P D vwCl (WB h0 hn hd hq cZ cD cI nb v ln go mv) s.heap := hP.sub [0, 1, 2, 3] rfl
  have hDc : va_D A (WB h0 hn hd hq cZ cD cI nb v ln go mv) := hD.sub [0, 1, 2, 3] (by decide) rfl
  have hKc : va_K D vwCl (TY cZ cD cI) s := hK.sub [0, 1, 2] rfl
  refine kv_never (vx_runV (As := [.int x0, .double y]) (rest := [.int (nI 0), .ref qo]) ⟨hx, hb, hml, hown, hts⟩ (c_X0_level_bad l D h0 hn hd hq cZ cD cI nb v ln go mv hln hl0 x0 y hbad) (cwV 2 hts gL_level_X0_level rfl rfl rfl (by decide +kernel) ⟨Nat.le_of_ble_eq_true rfl, Nat.le_of_ble_eq_true rfl⟩) ⟨fun a U g mk q => ⟨q.1, xOK_call q.2.1 g mk a, q.2.2.1, va_K.moved (u := U) (U := U.calling g mk a) (Vm.Alike.refl U.vm) q.2.2.2⟩, va_recv hKc hPc (ci := 1) (q0 := 0) rfl rfl, fun U hU hW => ⟨rfl, xOK_at hX hU hW, by rw [hU]; exact hPc, va_K.moved hW.alike hKc⟩⟩ rfl rfl hl.1 rfl (lv_room (Nat.le_of_ble_eq_true rfl)) dL_level_6 ⟨Nat.le_of_ble_eq_true rfl, Nat.le_of_ble_eq_true rfl⟩) (fun E9 ce q9 H hE h1 h2 h3 h4 h5 => ?_)
  subst hE
  have hP : va_P D vwCl [(h0, .inr (1, [.ref hn, .ref hd, .ref hq, .int (b2i go), .int mv])), (hn, .inl (cZ, 165, .inl (fun j => b2i (nb j)))), (hd, .inl (cD, 165, .inr (.inr (.inr (.inl v))))), (hq, .inl (cI, 12, .inl (fun j => nI (ln j)))), (qo, .inl (cJ, 1, .inr (.inl oL)))] H := hP.kept (fun k q hk => h2 q.1 (vx_lt hP hk))
  have hS : va_S A s.heap H [] := ⟨h1, fun q hq _ => h2 q hq, fun q hq => absurd hq List.not_mem_nil⟩
  refine vx_catch (E := IAE) (name := IAE) hown [] ⟨0, 11, 14, 13⟩ [⟨0, 11, 18, 15⟩] htab (fun z hz => absurd hz List.not_mem_nil) (by decide) (by decide) (hts (.classLink RL 13 IAE) (by decide +kernel)) (xC.word hX.2.2.2.1) h3 h4 h5 ?_
  show W p l e _ s m _ below meth c H [] _ _ _ (F0 m 14 ls [.ref q9])
  refine lv_astore (lv' := [(5, .ref q9), (0, .ref h0), (1, .int x0), (2, .double y), (4, .ref qo)]) hx hb dL_level_14 hl (by decide) rfl (fun ls hl => ?_)
  refine lv_iconst (v := nI 1) hx hb dL_level_16 (by decide) ?_
  refine vx_ret ?_
  refine W.widen (k := 2) (n := 12) (Nat.le_of_ble_eq_true rfl) (Nat.le_of_ble_eq_true rfl) ?_
  exact W.iret (v := nI 1) hx hb hr (fun t9 ht9 hW9 => ⟨⟨_, rfl, rfl, by rw [ht9]; exact hP⟩, hS.F ht9⟩) hS.2.2 dL_level_17
set_option maxHeartbeats 4000000 in
set_option maxRecDepth 100000 in
theorem w_wind (l : Launch) (D : va_G) (h0 hn hd hq qo : Nat) (cZ cD cI cJ : ClassId) (nb : Nat → Bool) (v : Nat → UInt64) (ln : Nat → Nat) (go : Bool) (mv : Int32) (oL : Nat → Int64) (hln : ∀ j, ln j ≤ 12) (hl0 : l.stackTraces = false) (zz : Nat) (g : Nat) (x : UInt32) (hg : g < 6) (hlv : wnd x = true) (hrm : ln (g * 2 + 1) < 12) : Met l yL_wind wsL_wind ({ frames := 9, cells := 3, slots := 18, locals := 148 }) (va_Pc [.ref h0, .int (nI g), .float x, .ref qo] (fun U => xOK U ∧ xN U ∧ U.heap.size = zz ∧ va_P D vwCl [(h0, .inr (1, [.ref hn, .ref hd, .ref hq, .int (b2i go), .int mv])), (hn, .inl (cZ, 165, .inl (fun j => b2i (nb j)))), (hd, .inl (cD, 165, .inr (.inr (.inr (.inl v))))), (hq, .inl (cI, 12, .inl (fun j => nI (ln j)))), (qo, .inl (cJ, 1, .inr (.inl oL)))] U.heap ∧ va_K D vwCl (TYL cZ cD cI cJ) U ∧ va_D (fun _ => True) [(h0, .inr (1, [.ref hn, .ref hd, .ref hq, .int (b2i go), .int mv])), (hn, .inl (cZ, 165, .inl (fun j => b2i (nb j)))), (hd, .inl (cD, 165, .inr (.inr (.inr (.inl v))))), (hq, .inl (cI, 12, .inl (fun j => nI (ln j)))), (qo, .inl (cJ, 1, .inr (.inl oL)))])) (wr_Qi (fun r => r = nI 0) (fun H => va_P D vwCl [(h0, .inr (1, [.ref hn, .ref hd, .ref hq, .int (b2i go), .int mv])), (hn, .inl (cZ, 165, .inl (fun j => b2i (((up nb ((g * 2 + 1) * 12 + ln (g * 2 + 1)) true)) j)))), (hd, .inl (cD, 165, .inr (.inr (.inr (.inl ((up v ((g * 2 + 1) * 12 + ln (g * 2 + 1)) (FP.f2d x)))))))), (hq, .inl (cI, 12, .inl (fun j => nI (((up ln (g * 2 + 1) (ln (g * 2 + 1) + 1))) j)))), (qo, .inl (cJ, 1, .inr (.inl (up oL 0 (Int32.toInt64 (nI (ln (g * 2 + 1) + 1)))))))] H) (va_A [(h0, .inr (1, [.ref hn, .ref hd, .ref hq, .int (b2i go), .int mv])), (hn, .inl (cZ, 165, .inl (fun j => b2i (nb j)))), (hd, .inl (cD, 165, .inr (.inr (.inr (.inl v))))), (hq, .inl (cI, 12, .inl (fun j => nI (ln j)))), (qo, .inl (cJ, 1, .inr (.inl oL)))] zz)) 3 18 (va_A [(h0, .inr (1, [.ref hn, .ref hd, .ref hq, .int (b2i go), .int mv])), (hn, .inl (cZ, 165, .inl (fun j => b2i (nb j)))), (hd, .inl (cD, 165, .inr (.inr (.inr (.inl v))))), (hq, .inl (cI, 12, .inl (fun j => nI (ln j)))), (qo, .inl (cJ, 1, .inr (.inl oL)))] zz) := by
  refine met_of_vx (vx_ofWH (cc := cL_wind) (maxL := 5) (ret := some .int) (hh := [(0, 10, 13, 13), (0, 10, 17, 15)]) (by decide) rfl ?_)
  intro p e s m args below meth c s₁ B hml hv
  obtain ⟨rfl, hX, hN, hsz_, hP, hK, hD0⟩ := hv
  have hx := B.exec
  have hb := B.bytes
  have hr := B.returns
  have hts := atoms_spec (ws := wsL_wind) B.pre
  have hown : s.vm.findClass RL = some m.cls := findClass_of_methodNamed B.named
  have hlocks := B.notSynchronized
  have htab := vx_table (x := yL_wind) (hh := [(0, 10, 13, 13), (0, 10, 17, 15)]) B (hts _ List.mem_cons_self)
  subst hsz_
  have hD := hD0.self (sz := s.heap.size)
  generalize hAe : va_A [(h0, .inr (1, [.ref hn, .ref hd, .ref hq, .int (b2i go), .int mv])), (hn, .inl (cZ, 165, .inl (fun j => b2i (nb j)))), (hd, .inl (cD, 165, .inr (.inr (.inr (.inl v))))), (hq, .inl (cI, 12, .inl (fun j => nI (ln j)))), (qo, .inl (cJ, 1, .inr (.inl oL)))] s.heap.size = A at hD ⊢
  have hA : ∀ q : Nat, s.heap.size ≤ q → A q := fun q h => by rw [← hAe]; exact Or.inr h
  have hS : va_S A s.heap s.heap [] := va_S.rf
  have hl := lv_entry ([.ref h0, .int (nI g), .float x, .ref qo]) (n := 5) (Nat.le_of_ble_eq_true rfl)
  rw [lg_entry_eq]
  generalize (lg_sl ([.ref h0, .int (nI g), .float x, .ref qo]) ++ List.replicate (5 - (lg_sl ([.ref h0, .int (nI g), .float x, .ref qo])).length) Slot.unset).toArray = ls at hl ⊢
  have hl : lv_has ls 5 [(0, .ref h0), (1, .int (nI g)), (2, .float x), (3, .ref qo)] := hl
  refine lv_aload_n hx hb dL_wind_0 rfl (lv_at hl 3 rfl) ?_
  refine lv_iconst (v := nI 0) hx hb dL_wind_1 (by decide) ?_
  refine lv_aload_n hx hb dL_wind_2 rfl (lv_at hl 0 rfl) ?_
  refine lv_iload_n hx hb dL_wind_3 rfl (lv_at hl 1 rfl) ?_
  refine lv_fload_n hx hb dL_wind_4 rfl (lv_at hl 2 rfl) ?_
  have hPc : va_P D vwCl (WB h0 hn hd hq cZ cD cI nb v ln go mv) s.heap := hP.sub [0, 1, 2, 3] rfl
  have hDc : va_D A (WB h0 hn hd hq cZ cD cI nb v ln go mv) := hD.sub [0, 1, 2, 3] (by decide) rfl
  have hKc : va_K D vwCl (TY cZ cD cI) s := hK.sub [0, 1, 2] rfl
  have hFc := va_free (wc := WB h0 hn hd hq cZ cD cI nb v ln go mv) hD hS hA [0, 1, 2, 3] rfl
  refine wr_calli (va_runV (As := [.int (nI g), .float x]) (rest := [.int (nI 0), .ref qo]) ⟨hx, hb, hml, hown, hts⟩ (c_X0_wind l D h0 hn hd hq cZ cD cI nb v ln go mv hln hl0 s.heap.size g x hg hlv hrm) (cwV 2 hts gL_wind_X0_wind rfl rfl rfl (by decide +kernel) ⟨Nat.le_of_ble_eq_true rfl, Nat.le_of_ble_eq_true rfl⟩) ⟨fun a U g mk q => ⟨q.1, xOK_call q.2.1 g mk a, q.2.2.1, q.2.2.2.1, va_K.moved (u := U) (U := U.calling g mk a) (Vm.Alike.refl U.vm) q.2.2.2.2.1, q.2.2.2.2.2⟩, va_recv hKc hPc (ci := 1) (q0 := 0) rfl rfl, fun U hU hW => ⟨rfl, xOK_at hX hU hW, by rw [hU], by rw [hU]; exact hPc, va_K.moved hW.alike hKc, hDc.weaken (fun _ _ _ _ => trivial)⟩⟩ rfl rfl hl.1 rfl (lv_room (Nat.le_of_ble_eq_true rfl)) dL_wind_5 ⟨Nat.le_of_ble_eq_true rfl, Nat.le_of_ble_eq_true rfl⟩) hS hFc (fun r_1 H locs hr_1 hP1 hz1 hk1 hS => ?_)
  subst hr_1
  obtain ⟨hP, -⟩ := va_join (wr := [(qo, .inl (cJ, 1, .inr (.inl oL)))]) (w1 := WB h0 hn hd hq cZ cD cI (up nb ((g * 2 + 1) * 12 + ln (g * 2 + 1)) true) (up v ((g * 2 + 1) * 12 + ln (g * 2 + 1)) (FP.f2d x)) (up ln (g * 2 + 1) (ln (g * 2 + 1) + 1)) go mv) hP hD [0, 1, 2, 3] [4] rfl rfl (by decide) (by decide) hk1 hFc hP1 (va_D_same (ws := WB h0 hn hd hq cZ cD cI nb v ln go mv) rfl (hDc.self (sz := s.heap.size)))
  have hP : va_P D vwCl [(h0, .inr (1, [.ref hn, .ref hd, .ref hq, .int (b2i go), .int mv])), (hn, .inl (cZ, 165, .inl (fun j => b2i (((up nb ((g * 2 + 1) * 12 + ln (g * 2 + 1)) true)) j)))), (hd, .inl (cD, 165, .inr (.inr (.inr (.inl ((up v ((g * 2 + 1) * 12 + ln (g * 2 + 1)) (FP.f2d x)))))))), (hq, .inl (cI, 12, .inl (fun j => nI (((up ln (g * 2 + 1) (ln (g * 2 + 1) + 1))) j)))), (qo, .inl (cJ, 1, .inr (.inl oL)))] H := hP.sub [1, 2, 3, 4, 0] rfl
  have hD : va_D A [(h0, .inr (1, [.ref hn, .ref hd, .ref hq, .int (b2i go), .int mv])), (hn, .inl (cZ, 165, .inl (fun j => b2i (((up nb ((g * 2 + 1) * 12 + ln (g * 2 + 1)) true)) j)))), (hd, .inl (cD, 165, .inr (.inr (.inr (.inl ((up v ((g * 2 + 1) * 12 + ln (g * 2 + 1)) (FP.f2d x)))))))), (hq, .inl (cI, 12, .inl (fun j => nI (((up ln (g * 2 + 1) (ln (g * 2 + 1) + 1))) j)))), (qo, .inl (cJ, 1, .inr (.inl oL)))] := va_D_same (ws := [(h0, .inr (1, [.ref hn, .ref hd, .ref hq, .int (b2i go), .int mv])), (hn, .inl (cZ, 165, .inl (fun j => b2i (nb j)))), (hd, .inl (cD, 165, .inr (.inr (.inr (.inl v))))), (hq, .inl (cI, 12, .inl (fun j => nI (ln j)))), (qo, .inl (cJ, 1, .inr (.inl oL)))]) rfl hD
  refine lv_i2l hx hb dL_wind_8 rfl ?_
  refine kn_last hx hb hK hP hD hS 4 3 rfl rfl (by omega) (by decide) dL_wind_9 (fun H locs hP hD hS => ?_)
  have hP : va_P D vwCl ([(h0, .inr (1, [.ref hn, .ref hd, .ref hq, .int (b2i go), .int mv])), (hn, .inl (cZ, 165, .inl (fun j => b2i (((up nb ((g * 2 + 1) * 12 + ln (g * 2 + 1)) true)) j)))), (hd, .inl (cD, 165, .inr (.inr (.inr (.inl ((up v ((g * 2 + 1) * 12 + ln (g * 2 + 1)) (FP.f2d x)))))))), (hq, .inl (cI, 12, .inl (fun j => nI (((up ln (g * 2 + 1) (ln (g * 2 + 1) + 1))) j)))), (qo, .inl (cJ, 1, .inr (.inl (up oL 0 (Int32.toInt64 (nI (ln (g * 2 + 1) + 1)))))))]) H := hP
  have hD : va_D A ([(h0, .inr (1, [.ref hn, .ref hd, .ref hq, .int (b2i go), .int mv])), (hn, .inl (cZ, 165, .inl (fun j => b2i (((up nb ((g * 2 + 1) * 12 + ln (g * 2 + 1)) true)) j)))), (hd, .inl (cD, 165, .inr (.inr (.inr (.inl ((up v ((g * 2 + 1) * 12 + ln (g * 2 + 1)) (FP.f2d x)))))))), (hq, .inl (cI, 12, .inl (fun j => nI (((up ln (g * 2 + 1) (ln (g * 2 + 1) + 1))) j)))), (qo, .inl (cJ, 1, .inr (.inl (up oL 0 (Int32.toInt64 (nI (ln (g * 2 + 1) + 1)))))))]) := hD
  refine lv_goto (tgt := 21) hx hb dL_wind_10 (by decide) ?_
  refine lv_iconst (v := nI 0) hx hb dL_wind_21 (by decide) ?_
  refine vx_ret ?_
  refine W.widen (k := 3) (n := 18) (Nat.le_of_ble_eq_true rfl) (Nat.le_of_ble_eq_true rfl) ?_
  exact W.iret (v := nI 0) hx hb hr (fun t9 ht9 hW9 => ⟨⟨_, rfl, rfl, by rw [ht9]; exact hP⟩, hS.F ht9⟩) hS.2.2 dL_wind_22
set_option maxHeartbeats 4000000 in
set_option maxRecDepth 100000 in
theorem w_wind_full (l : Launch) (D : va_G) (h0 hn hd hq qo : Nat) (cZ cD cI cJ : ClassId) (nb : Nat → Bool) (v : Nat → UInt64) (ln : Nat → Nat) (go : Bool) (mv : Int32) (oL : Nat → Int64) (hln : ∀ j, ln j ≤ 12) (hl0 : l.stackTraces = false) (zz : Nat) (g : Nat) (x : UInt32) (hg : g < 6) (hlv : wnd x = true) (hfull : ln (g * 2 + 1) = 12) : Met l yL_wind wsL_wind ({ frames := 9, cells := 3, slots := 18, locals := 148 }) (va_Pc [.ref h0, .int (nI g), .float x, .ref qo] (fun U => xOK U ∧ xN U ∧ U.heap.size = zz ∧ va_P D vwCl [(h0, .inr (1, [.ref hn, .ref hd, .ref hq, .int (b2i go), .int mv])), (hn, .inl (cZ, 165, .inl (fun j => b2i (nb j)))), (hd, .inl (cD, 165, .inr (.inr (.inr (.inl v))))), (hq, .inl (cI, 12, .inl (fun j => nI (ln j)))), (qo, .inl (cJ, 1, .inr (.inl oL)))] U.heap ∧ va_K D vwCl (TYL cZ cD cI cJ) U ∧ va_D (fun _ => True) [(h0, .inr (1, [.ref hn, .ref hd, .ref hq, .int (b2i go), .int mv])), (hn, .inl (cZ, 165, .inl (fun j => b2i (nb j)))), (hd, .inl (cD, 165, .inr (.inr (.inr (.inl v))))), (hq, .inl (cI, 12, .inl (fun j => nI (ln j)))), (qo, .inl (cJ, 1, .inr (.inl oL)))])) (wr_Qi (fun r => r = nI 2) (fun H => va_P D vwCl [(h0, .inr (1, [.ref hn, .ref hd, .ref hq, .int (b2i go), .int mv])), (hn, .inl (cZ, 165, .inl (fun j => b2i (nb j)))), (hd, .inl (cD, 165, .inr (.inr (.inr (.inl v))))), (hq, .inl (cI, 12, .inl (fun j => nI (ln j)))), (qo, .inl (cJ, 1, .inr (.inl oL)))] H) (va_A [(h0, .inr (1, [.ref hn, .ref hd, .ref hq, .int (b2i go), .int mv])), (hn, .inl (cZ, 165, .inl (fun j => b2i (nb j)))), (hd, .inl (cD, 165, .inr (.inr (.inr (.inl v))))), (hq, .inl (cI, 12, .inl (fun j => nI (ln j)))), (qo, .inl (cJ, 1, .inr (.inl oL)))] zz)) 3 18 (va_A [(h0, .inr (1, [.ref hn, .ref hd, .ref hq, .int (b2i go), .int mv])), (hn, .inl (cZ, 165, .inl (fun j => b2i (nb j)))), (hd, .inl (cD, 165, .inr (.inr (.inr (.inl v))))), (hq, .inl (cI, 12, .inl (fun j => nI (ln j)))), (qo, .inl (cJ, 1, .inr (.inl oL)))] zz) := by
  refine met_of_vx (vx_ofWH (cc := cL_wind) (maxL := 5) (ret := some .int) (hh := [(0, 10, 13, 13), (0, 10, 17, 15)]) (by decide) rfl ?_)
  intro p e s m args below meth c s₁ B hml hv
  obtain ⟨rfl, hX, hN, hsz_, hP, hK, hD0⟩ := hv
  have hx := B.exec
  have hb := B.bytes
  have hr := B.returns
  have hts := atoms_spec (ws := wsL_wind) B.pre
  have hown : s.vm.findClass RL = some m.cls := findClass_of_methodNamed B.named
  have hlocks := B.notSynchronized
  have htab := vx_table (x := yL_wind) (hh := [(0, 10, 13, 13), (0, 10, 17, 15)]) B (hts _ List.mem_cons_self)
  subst hsz_
  have hD := hD0.self (sz := s.heap.size)
  generalize hAe : va_A [(h0, .inr (1, [.ref hn, .ref hd, .ref hq, .int (b2i go), .int mv])), (hn, .inl (cZ, 165, .inl (fun j => b2i (nb j)))), (hd, .inl (cD, 165, .inr (.inr (.inr (.inl v))))), (hq, .inl (cI, 12, .inl (fun j => nI (ln j)))), (qo, .inl (cJ, 1, .inr (.inl oL)))] s.heap.size = A at hD ⊢
  have hA : ∀ q : Nat, s.heap.size ≤ q → A q := fun q h => by rw [← hAe]; exact Or.inr h
  have hS : va_S A s.heap s.heap [] := va_S.rf
  have hl := lv_entry ([.ref h0, .int (nI g), .float x, .ref qo]) (n := 5) (Nat.le_of_ble_eq_true rfl)
  rw [lg_entry_eq]
  generalize (lg_sl ([.ref h0, .int (nI g), .float x, .ref qo]) ++ List.replicate (5 - (lg_sl ([.ref h0, .int (nI g), .float x, .ref qo])).length) Slot.unset).toArray = ls at hl ⊢
  have hl : lv_has ls 5 [(0, .ref h0), (1, .int (nI g)), (2, .float x), (3, .ref qo)] := hl
  refine lv_aload_n hx hb dL_wind_0 rfl (lv_at hl 3 rfl) ?_
  refine lv_iconst (v := nI 0) hx hb dL_wind_1 (by decide) ?_
  refine lv_aload_n hx hb dL_wind_2 rfl (lv_at hl 0 rfl) ?_
  refine lv_iload_n hx hb dL_wind_3 rfl (lv_at hl 1 rfl) ?_
  refine lv_fload_n hx hb dL_wind_4 rfl (lv_at hl 2 rfl) ?_
  have hPc : va_P D vwCl (WB h0 hn hd hq cZ cD cI nb v ln go mv) s.heap := hP.sub [0, 1, 2, 3] rfl
  have hDc : va_D A (WB h0 hn hd hq cZ cD cI nb v ln go mv) := hD.sub [0, 1, 2, 3] (by decide) rfl
  have hKc : va_K D vwCl (TY cZ cD cI) s := hK.sub [0, 1, 2] rfl
  refine kv_never (vx_runV (As := [.int (nI g), .float x]) (rest := [.int (nI 0), .ref qo]) ⟨hx, hb, hml, hown, hts⟩ (c_X0_wind_full l D h0 hn hd hq cZ cD cI nb v ln go mv hln hl0 g x hg hlv hfull) (cwV 2 hts gL_wind_X0_wind rfl rfl rfl (by decide +kernel) ⟨Nat.le_of_ble_eq_true rfl, Nat.le_of_ble_eq_true rfl⟩) ⟨fun a U g mk q => ⟨q.1, xOK_call q.2.1 g mk a, q.2.2.1, va_K.moved (u := U) (U := U.calling g mk a) (Vm.Alike.refl U.vm) q.2.2.2⟩, va_recv hKc hPc (ci := 1) (q0 := 0) rfl rfl, fun U hU hW => ⟨rfl, xOK_at hX hU hW, by rw [hU]; exact hPc, va_K.moved hW.alike hKc⟩⟩ rfl rfl hl.1 rfl (lv_room (Nat.le_of_ble_eq_true rfl)) dL_wind_5 ⟨Nat.le_of_ble_eq_true rfl, Nat.le_of_ble_eq_true rfl⟩) (fun E9 ce q9 H hE h1 h2 h3 h4 h5 => ?_)
  subst hE
  have hP : va_P D vwCl [(h0, .inr (1, [.ref hn, .ref hd, .ref hq, .int (b2i go), .int mv])), (hn, .inl (cZ, 165, .inl (fun j => b2i (nb j)))), (hd, .inl (cD, 165, .inr (.inr (.inr (.inl v))))), (hq, .inl (cI, 12, .inl (fun j => nI (ln j)))), (qo, .inl (cJ, 1, .inr (.inl oL)))] H := hP.kept (fun k q hk => h2 q.1 (vx_lt hP hk))
  have hS : va_S A s.heap H [] := ⟨h1, fun q hq _ => h2 q hq, fun q hq => absurd hq List.not_mem_nil⟩
  refine vx_catch (E := ISE) (name := ISE) hown [⟨0, 10, 13, 13⟩] ⟨0, 10, 17, 15⟩ [] htab (fun z hz => (List.mem_cons.mp hz).elim (fun e9 => by rw [e9]; exact Or.inr ⟨by decide, IAE, hts (.classLink RL 13 IAE) (by decide +kernel), hN.1⟩) (fun hz => absurd hz List.not_mem_nil)) (by decide) (by decide) (hts (.classLink RL 15 ISE) (by decide +kernel)) (xC.word hX.2.2.2.2.1) h3 h4 h5 ?_
  show W p l e _ s m _ below meth c H [] _ _ _ (F0 m 17 ls [.ref q9])
  refine lv_astore (lv' := [(4, .ref q9), (0, .ref h0), (1, .int (nI g)), (2, .float x), (3, .ref qo)]) hx hb dL_wind_17 hl (by decide) rfl (fun ls hl => ?_)
  refine lv_iconst (v := nI 2) hx hb dL_wind_19 (by decide) ?_
  refine vx_ret ?_
  refine W.widen (k := 3) (n := 18) (Nat.le_of_ble_eq_true rfl) (Nat.le_of_ble_eq_true rfl) ?_
  exact W.iret (v := nI 2) hx hb hr (fun t9 ht9 hW9 => ⟨⟨_, rfl, rfl, by rw [ht9]; exact hP⟩, hS.F ht9⟩) hS.2.2 dL_wind_20
set_option maxHeartbeats 4000000 in
set_option maxRecDepth 100000 in
theorem w_wind_bad (l : Launch) (D : va_G) (h0 hn hd hq qo : Nat) (cZ cD cI cJ : ClassId) (nb : Nat → Bool) (v : Nat → UInt64) (ln : Nat → Nat) (go : Bool) (mv : Int32) (oL : Nat → Int64) (hln : ∀ j, ln j ≤ 12) (hl0 : l.stackTraces = false) (zz : Nat) (x0 : Int32) (y : UInt32) (hbad : ¬ (InN 6 x0 ∧ wnd y = true)) : Met l yL_wind wsL_wind ({ frames := 8, cells := 2, slots := 12, locals := 124 }) (va_Pc [.ref h0, .int x0, .float y, .ref qo] (fun U => xOK U ∧ xN U ∧ U.heap.size = zz ∧ va_P D vwCl [(h0, .inr (1, [.ref hn, .ref hd, .ref hq, .int (b2i go), .int mv])), (hn, .inl (cZ, 165, .inl (fun j => b2i (nb j)))), (hd, .inl (cD, 165, .inr (.inr (.inr (.inl v))))), (hq, .inl (cI, 12, .inl (fun j => nI (ln j)))), (qo, .inl (cJ, 1, .inr (.inl oL)))] U.heap ∧ va_K D vwCl (TYL cZ cD cI cJ) U ∧ va_D (fun _ => True) [(h0, .inr (1, [.ref hn, .ref hd, .ref hq, .int (b2i go), .int mv])), (hn, .inl (cZ, 165, .inl (fun j => b2i (nb j)))), (hd, .inl (cD, 165, .inr (.inr (.inr (.inl v))))), (hq, .inl (cI, 12, .inl (fun j => nI (ln j)))), (qo, .inl (cJ, 1, .inr (.inl oL)))])) (wr_Qi (fun r => r = nI 1) (fun H => va_P D vwCl [(h0, .inr (1, [.ref hn, .ref hd, .ref hq, .int (b2i go), .int mv])), (hn, .inl (cZ, 165, .inl (fun j => b2i (nb j)))), (hd, .inl (cD, 165, .inr (.inr (.inr (.inl v))))), (hq, .inl (cI, 12, .inl (fun j => nI (ln j)))), (qo, .inl (cJ, 1, .inr (.inl oL)))] H) (va_A [(h0, .inr (1, [.ref hn, .ref hd, .ref hq, .int (b2i go), .int mv])), (hn, .inl (cZ, 165, .inl (fun j => b2i (nb j)))), (hd, .inl (cD, 165, .inr (.inr (.inr (.inl v))))), (hq, .inl (cI, 12, .inl (fun j => nI (ln j)))), (qo, .inl (cJ, 1, .inr (.inl oL)))] zz)) 2 12 (va_A [(h0, .inr (1, [.ref hn, .ref hd, .ref hq, .int (b2i go), .int mv])), (hn, .inl (cZ, 165, .inl (fun j => b2i (nb j)))), (hd, .inl (cD, 165, .inr (.inr (.inr (.inl v))))), (hq, .inl (cI, 12, .inl (fun j => nI (ln j)))), (qo, .inl (cJ, 1, .inr (.inl oL)))] zz) := by
  refine met_of_vx (vx_ofWH (cc := cL_wind) (maxL := 5) (ret := some .int) (hh := [(0, 10, 13, 13), (0, 10, 17, 15)]) (by decide) rfl ?_)
  intro p e s m args below meth c s₁ B hml hv
  obtain ⟨rfl, hX, hN, hsz_, hP, hK, hD0⟩ := hv
  have hx := B.exec
  have hb := B.bytes
  have hr := B.returns
  have hts := atoms_spec (ws := wsL_wind) B.pre
  have hown : s.vm.findClass RL = some m.cls := findClass_of_methodNamed B.named
  have hlocks := B.notSynchronized
  have htab := vx_table (x := yL_wind) (hh := [(0, 10, 13, 13), (0, 10, 17, 15)]) B (hts _ List.mem_cons_self)
  subst hsz_
  have hD := hD0.self (sz := s.heap.size)
  generalize hAe : va_A [(h0, .inr (1, [.ref hn, .ref hd, .ref hq, .int (b2i go), .int mv])), (hn, .inl (cZ, 165, .inl (fun j => b2i (nb j)))), (hd, .inl (cD, 165, .inr (.inr (.inr (.inl v))))), (hq, .inl (cI, 12, .inl (fun j => nI (ln j)))), (qo, .inl (cJ, 1, .inr (.inl oL)))] s.heap.size = A at hD ⊢
  have hA : ∀ q : Nat, s.heap.size ≤ q → A q := fun q h => by rw [← hAe]; exact Or.inr h
  have hS : va_S A s.heap s.heap [] := va_S.rf
  have hl := lv_entry ([.ref h0, .int x0, .float y, .ref qo]) (n := 5) (Nat.le_of_ble_eq_true rfl)
  rw [lg_entry_eq]
  generalize (lg_sl ([.ref h0, .int x0, .float y, .ref qo]) ++ List.replicate (5 - (lg_sl ([.ref h0, .int x0, .float y, .ref qo])).length) Slot.unset).toArray = ls at hl ⊢
  have hl : lv_has ls 5 [(0, .ref h0), (1, .int x0), (2, .float y), (3, .ref qo)] := hl
  refine lv_aload_n hx hb dL_wind_0 rfl (lv_at hl 3 rfl) ?_
  refine lv_iconst (v := nI 0) hx hb dL_wind_1 (by decide) ?_
  refine lv_aload_n hx hb dL_wind_2 rfl (lv_at hl 0 rfl) ?_
  refine lv_iload_n hx hb dL_wind_3 rfl (lv_at hl 1 rfl) ?_
  refine lv_fload_n hx hb dL_wind_4 rfl (lv_at hl 2 rfl) ?_
  have hPc : va_P D vwCl (WB h0 hn hd hq cZ cD cI nb v ln go mv) s.heap := hP.sub [0, 1, 2, 3] rfl
  have hDc : va_D A (WB h0 hn hd hq cZ cD cI nb v ln go mv) := hD.sub [0, 1, 2, 3] (by decide) rfl
  have hKc : va_K D vwCl (TY cZ cD cI) s := hK.sub [0, 1, 2] rfl
  refine kv_never (vx_runV (As := [.int x0, .float y]) (rest := [.int (nI 0), .ref qo]) ⟨hx, hb, hml, hown, hts⟩ (c_X0_wind_bad l D h0 hn hd hq cZ cD cI nb v ln go mv hln hl0 x0 y hbad) (cwV 2 hts gL_wind_X0_wind rfl rfl rfl (by decide +kernel) ⟨Nat.le_of_ble_eq_true rfl, Nat.le_of_ble_eq_true rfl⟩) ⟨fun a U g mk q => ⟨q.1, xOK_call q.2.1 g mk a, q.2.2.1, va_K.moved (u := U) (U := U.calling g mk a) (Vm.Alike.refl U.vm) q.2.2.2⟩, va_recv hKc hPc (ci := 1) (q0 := 0) rfl rfl, fun U hU hW => ⟨rfl, xOK_at hX hU hW, by rw [hU]; exact hPc, va_K.moved hW.alike hKc⟩⟩ rfl rfl hl.1 rfl (lv_room (Nat.le_of_ble_eq_true rfl)) dL_wind_5 ⟨Nat.le_of_ble_eq_true rfl, Nat.le_of_ble_eq_true rfl⟩) (fun E9 ce q9 H hE h1 h2 h3 h4 h5 => ?_)
  subst hE
  have hP : va_P D vwCl [(h0, .inr (1, [.ref hn, .ref hd, .ref hq, .int (b2i go), .int mv])), (hn, .inl (cZ, 165, .inl (fun j => b2i (nb j)))), (hd, .inl (cD, 165, .inr (.inr (.inr (.inl v))))), (hq, .inl (cI, 12, .inl (fun j => nI (ln j)))), (qo, .inl (cJ, 1, .inr (.inl oL)))] H := hP.kept (fun k q hk => h2 q.1 (vx_lt hP hk))
  have hS : va_S A s.heap H [] := ⟨h1, fun q hq _ => h2 q hq, fun q hq => absurd hq List.not_mem_nil⟩
  refine vx_catch (E := IAE) (name := IAE) hown [] ⟨0, 10, 13, 13⟩ [⟨0, 10, 17, 15⟩] htab (fun z hz => absurd hz List.not_mem_nil) (by decide) (by decide) (hts (.classLink RL 13 IAE) (by decide +kernel)) (xC.word hX.2.2.2.1) h3 h4 h5 ?_
  show W p l e _ s m _ below meth c H [] _ _ _ (F0 m 13 ls [.ref q9])
  refine lv_astore (lv' := [(4, .ref q9), (0, .ref h0), (1, .int x0), (2, .float y), (3, .ref qo)]) hx hb dL_wind_13 hl (by decide) rfl (fun ls hl => ?_)
  refine lv_iconst (v := nI 1) hx hb dL_wind_15 (by decide) ?_
  refine vx_ret ?_
  refine W.widen (k := 2) (n := 12) (Nat.le_of_ble_eq_true rfl) (Nat.le_of_ble_eq_true rfl) ?_
  exact W.iret (v := nI 1) hx hb hr (fun t9 ht9 hW9 => ⟨⟨_, rfl, rfl, by rw [ht9]; exact hP⟩, hS.F ht9⟩) hS.2.2 dL_wind_16
set_option maxHeartbeats 4000000 in
set_option maxRecDepth 100000 in
theorem w_out (l : Launch) (D : va_G) (h0 hn hd hq qo : Nat) (cZ cD cI cJ : ClassId) (nb : Nat → Bool) (v : Nat → UInt64) (ln : Nat → Nat) (go : Bool) (mv : Int32) (oL : Nat → Int64) (hln : ∀ j, ln j ≤ 12) (hl0 : l.stackTraces = false) (zz : Nat) (g : Nat) (w : Nat) (hg : g < 6) (hw : w < 2) (hrm : ln (g * 2 + w) < 12) : Met l yL_out wsL_out ({ frames := 9, cells := 3, slots := 18, locals := 146 }) (va_Pc [.ref h0, .int (nI g), .int (nI w), .ref qo] (fun U => xOK U ∧ xN U ∧ U.heap.size = zz ∧ va_P D vwCl [(h0, .inr (1, [.ref hn, .ref hd, .ref hq, .int (b2i go), .int mv])), (hn, .inl (cZ, 165, .inl (fun j => b2i (nb j)))), (hd, .inl (cD, 165, .inr (.inr (.inr (.inl v))))), (hq, .inl (cI, 12, .inl (fun j => nI (ln j)))), (qo, .inl (cJ, 1, .inr (.inl oL)))] U.heap ∧ va_K D vwCl (TYL cZ cD cI cJ) U ∧ va_D (fun _ => True) [(h0, .inr (1, [.ref hn, .ref hd, .ref hq, .int (b2i go), .int mv])), (hn, .inl (cZ, 165, .inl (fun j => b2i (nb j)))), (hd, .inl (cD, 165, .inr (.inr (.inr (.inl v))))), (hq, .inl (cI, 12, .inl (fun j => nI (ln j)))), (qo, .inl (cJ, 1, .inr (.inl oL)))])) (wr_Qi (fun r => r = nI 0) (fun H => va_P D vwCl [(h0, .inr (1, [.ref hn, .ref hd, .ref hq, .int (b2i go), .int mv])), (hn, .inl (cZ, 165, .inl (fun j => b2i (((up nb ((g * 2 + w) * 12 + ln (g * 2 + w)) false)) j)))), (hd, .inl (cD, 165, .inr (.inr (.inr (.inl v))))), (hq, .inl (cI, 12, .inl (fun j => nI (((up ln (g * 2 + w) (ln (g * 2 + w) + 1))) j)))), (qo, .inl (cJ, 1, .inr (.inl (up oL 0 (Int32.toInt64 (nI (ln (g * 2 + w) + 1)))))))] H) (va_A [(h0, .inr (1, [.ref hn, .ref hd, .ref hq, .int (b2i go), .int mv])), (hn, .inl (cZ, 165, .inl (fun j => b2i (nb j)))), (hd, .inl (cD, 165, .inr (.inr (.inr (.inl v))))), (hq, .inl (cI, 12, .inl (fun j => nI (ln j)))), (qo, .inl (cJ, 1, .inr (.inl oL)))] zz)) 3 18 (va_A [(h0, .inr (1, [.ref hn, .ref hd, .ref hq, .int (b2i go), .int mv])), (hn, .inl (cZ, 165, .inl (fun j => b2i (nb j)))), (hd, .inl (cD, 165, .inr (.inr (.inr (.inl v))))), (hq, .inl (cI, 12, .inl (fun j => nI (ln j)))), (qo, .inl (cJ, 1, .inr (.inl oL)))] zz) := by
  refine met_of_vx (vx_ofWH (cc := cL_out) (maxL := 5) (ret := some .int) (hh := [(0, 10, 13, 13), (0, 10, 17, 15)]) (by decide) rfl ?_)
  intro p e s m args below meth c s₁ B hml hv
  obtain ⟨rfl, hX, hN, hsz_, hP, hK, hD0⟩ := hv
  have hx := B.exec
  have hb := B.bytes
  have hr := B.returns
  have hts := atoms_spec (ws := wsL_out) B.pre
  have hown : s.vm.findClass RL = some m.cls := findClass_of_methodNamed B.named
  have hlocks := B.notSynchronized
  have htab := vx_table (x := yL_out) (hh := [(0, 10, 13, 13), (0, 10, 17, 15)]) B (hts _ List.mem_cons_self)
  subst hsz_
  have hD := hD0.self (sz := s.heap.size)
  generalize hAe : va_A [(h0, .inr (1, [.ref hn, .ref hd, .ref hq, .int (b2i go), .int mv])), (hn, .inl (cZ, 165, .inl (fun j => b2i (nb j)))), (hd, .inl (cD, 165, .inr (.inr (.inr (.inl v))))), (hq, .inl (cI, 12, .inl (fun j => nI (ln j)))), (qo, .inl (cJ, 1, .inr (.inl oL)))] s.heap.size = A at hD ⊢
  have hA : ∀ q : Nat, s.heap.size ≤ q → A q := fun q h => by rw [← hAe]; exact Or.inr h
  have hS : va_S A s.heap s.heap [] := va_S.rf
  have hl := lv_entry ([.ref h0, .int (nI g), .int (nI w), .ref qo]) (n := 5) (Nat.le_of_ble_eq_true rfl)
  rw [lg_entry_eq]
  generalize (lg_sl ([.ref h0, .int (nI g), .int (nI w), .ref qo]) ++ List.replicate (5 - (lg_sl ([.ref h0, .int (nI g), .int (nI w), .ref qo])).length) Slot.unset).toArray = ls at hl ⊢
  have hl : lv_has ls 5 [(0, .ref h0), (1, .int (nI g)), (2, .int (nI w)), (3, .ref qo)] := hl
  refine lv_aload_n hx hb dL_out_0 rfl (lv_at hl 3 rfl) ?_
  refine lv_iconst (v := nI 0) hx hb dL_out_1 (by decide) ?_
  refine lv_aload_n hx hb dL_out_2 rfl (lv_at hl 0 rfl) ?_
  refine lv_iload_n hx hb dL_out_3 rfl (lv_at hl 1 rfl) ?_
  refine lv_iload_n hx hb dL_out_4 rfl (lv_at hl 2 rfl) ?_
  have hPc : va_P D vwCl (WB h0 hn hd hq cZ cD cI nb v ln go mv) s.heap := hP.sub [0, 1, 2, 3] rfl
  have hDc : va_D A (WB h0 hn hd hq cZ cD cI nb v ln go mv) := hD.sub [0, 1, 2, 3] (by decide) rfl
  have hKc : va_K D vwCl (TY cZ cD cI) s := hK.sub [0, 1, 2] rfl
  have hFc := va_free (wc := WB h0 hn hd hq cZ cD cI nb v ln go mv) hD hS hA [0, 1, 2, 3] rfl
  refine wr_calli (va_runV (As := [.int (nI g), .int (nI w)]) (rest := [.int (nI 0), .ref qo]) ⟨hx, hb, hml, hown, hts⟩ (c_X0_out l D h0 hn hd hq cZ cD cI nb v ln go mv hln hl0 s.heap.size g w hg hw hrm) (cwV 2 hts gL_out_X0_out rfl rfl rfl (by decide +kernel) ⟨Nat.le_of_ble_eq_true rfl, Nat.le_of_ble_eq_true rfl⟩) ⟨fun a U g mk q => ⟨q.1, xOK_call q.2.1 g mk a, q.2.2.1, q.2.2.2.1, va_K.moved (u := U) (U := U.calling g mk a) (Vm.Alike.refl U.vm) q.2.2.2.2.1, q.2.2.2.2.2⟩, va_recv hKc hPc (ci := 1) (q0 := 0) rfl rfl, fun U hU hW => ⟨rfl, xOK_at hX hU hW, by rw [hU], by rw [hU]; exact hPc, va_K.moved hW.alike hKc, hDc.weaken (fun _ _ _ _ => trivial)⟩⟩ rfl rfl hl.1 rfl (lv_room (Nat.le_of_ble_eq_true rfl)) dL_out_5 ⟨Nat.le_of_ble_eq_true rfl, Nat.le_of_ble_eq_true rfl⟩) hS hFc (fun r_1 H locs hr_1 hP1 hz1 hk1 hS => ?_)
  subst hr_1
  obtain ⟨hP, -⟩ := va_join (wr := [(qo, .inl (cJ, 1, .inr (.inl oL)))]) (w1 := WB h0 hn hd hq cZ cD cI (up nb ((g * 2 + w) * 12 + ln (g * 2 + w)) false) v (up ln (g * 2 + w) (ln (g * 2 + w) + 1)) go mv) hP hD [0, 1, 2, 3] [4] rfl rfl (by decide) (by decide) hk1 hFc hP1 (va_D_same (ws := WB h0 hn hd hq cZ cD cI nb v ln go mv) rfl (hDc.self (sz := s.heap.size)))
  have hP : va_P D vwCl [(h0, .inr (1, [.ref hn, .ref hd, .ref hq, .int (b2i go), .int mv])), (hn, .inl (cZ, 165, .inl (fun j => b2i (((up nb ((g * 2 + w) * 12 + ln (g * 2 + w)) false)) j)))), (hd, .inl (cD, 165, .inr (.inr (.inr (.inl v))))), (hq, .inl (cI, 12, .inl (fun j => nI (((up ln (g * 2 + w) (ln (g * 2 + w) + 1))) j)))), (qo, .inl (cJ, 1, .inr (.inl oL)))] H := hP.sub [1, 2, 3, 4, 0] rfl
  have hD : va_D A [(h0, .inr (1, [.ref hn, .ref hd, .ref hq, .int (b2i go), .int mv])), (hn, .inl (cZ, 165, .inl (fun j => b2i (((up nb ((g * 2 + w) * 12 + ln (g * 2 + w)) false)) j)))), (hd, .inl (cD, 165, .inr (.inr (.inr (.inl v))))), (hq, .inl (cI, 12, .inl (fun j => nI (((up ln (g * 2 + w) (ln (g * 2 + w) + 1))) j)))), (qo, .inl (cJ, 1, .inr (.inl oL)))] := va_D_same (ws := [(h0, .inr (1, [.ref hn, .ref hd, .ref hq, .int (b2i go), .int mv])), (hn, .inl (cZ, 165, .inl (fun j => b2i (nb j)))), (hd, .inl (cD, 165, .inr (.inr (.inr (.inl v))))), (hq, .inl (cI, 12, .inl (fun j => nI (ln j)))), (qo, .inl (cJ, 1, .inr (.inl oL)))]) rfl hD
  refine lv_i2l hx hb dL_out_8 rfl ?_
  refine kn_last hx hb hK hP hD hS 4 3 rfl rfl (by omega) (by decide) dL_out_9 (fun H locs hP hD hS => ?_)
  have hP : va_P D vwCl ([(h0, .inr (1, [.ref hn, .ref hd, .ref hq, .int (b2i go), .int mv])), (hn, .inl (cZ, 165, .inl (fun j => b2i (((up nb ((g * 2 + w) * 12 + ln (g * 2 + w)) false)) j)))), (hd, .inl (cD, 165, .inr (.inr (.inr (.inl v))))), (hq, .inl (cI, 12, .inl (fun j => nI (((up ln (g * 2 + w) (ln (g * 2 + w) + 1))) j)))), (qo, .inl (cJ, 1, .inr (.inl (up oL 0 (Int32.toInt64 (nI (ln (g * 2 + w) + 1)))))))]) H := hP
  have hD : va_D A ([(h0, .inr (1, [.ref hn, .ref hd, .ref hq, .int (b2i go), .int mv])), (hn, .inl (cZ, 165, .inl (fun j => b2i (((up nb ((g * 2 + w) * 12 + ln (g * 2 + w)) false)) j)))), (hd, .inl (cD, 165, .inr (.inr (.inr (.inl v))))), (hq, .inl (cI, 12, .inl (fun j => nI (((up ln (g * 2 + w) (ln (g * 2 + w) + 1))) j)))), (qo, .inl (cJ, 1, .inr (.inl (up oL 0 (Int32.toInt64 (nI (ln (g * 2 + w) + 1)))))))]) := hD
  refine lv_goto (tgt := 21) hx hb dL_out_10 (by decide) ?_
  refine lv_iconst (v := nI 0) hx hb dL_out_21 (by decide) ?_
  refine vx_ret ?_
  refine W.widen (k := 3) (n := 18) (Nat.le_of_ble_eq_true rfl) (Nat.le_of_ble_eq_true rfl) ?_
  exact W.iret (v := nI 0) hx hb hr (fun t9 ht9 hW9 => ⟨⟨_, rfl, rfl, by rw [ht9]; exact hP⟩, hS.F ht9⟩) hS.2.2 dL_out_22
set_option maxHeartbeats 4000000 in
set_option maxRecDepth 100000 in
theorem w_out_full (l : Launch) (D : va_G) (h0 hn hd hq qo : Nat) (cZ cD cI cJ : ClassId) (nb : Nat → Bool) (v : Nat → UInt64) (ln : Nat → Nat) (go : Bool) (mv : Int32) (oL : Nat → Int64) (hln : ∀ j, ln j ≤ 12) (hl0 : l.stackTraces = false) (zz : Nat) (g : Nat) (w : Nat) (hg : g < 6) (hw : w < 2) (hfull : ln (g * 2 + w) = 12) : Met l yL_out wsL_out ({ frames := 9, cells := 3, slots := 18, locals := 146 }) (va_Pc [.ref h0, .int (nI g), .int (nI w), .ref qo] (fun U => xOK U ∧ xN U ∧ U.heap.size = zz ∧ va_P D vwCl [(h0, .inr (1, [.ref hn, .ref hd, .ref hq, .int (b2i go), .int mv])), (hn, .inl (cZ, 165, .inl (fun j => b2i (nb j)))), (hd, .inl (cD, 165, .inr (.inr (.inr (.inl v))))), (hq, .inl (cI, 12, .inl (fun j => nI (ln j)))), (qo, .inl (cJ, 1, .inr (.inl oL)))] U.heap ∧ va_K D vwCl (TYL cZ cD cI cJ) U ∧ va_D (fun _ => True) [(h0, .inr (1, [.ref hn, .ref hd, .ref hq, .int (b2i go), .int mv])), (hn, .inl (cZ, 165, .inl (fun j => b2i (nb j)))), (hd, .inl (cD, 165, .inr (.inr (.inr (.inl v))))), (hq, .inl (cI, 12, .inl (fun j => nI (ln j)))), (qo, .inl (cJ, 1, .inr (.inl oL)))])) (wr_Qi (fun r => r = nI 2) (fun H => va_P D vwCl [(h0, .inr (1, [.ref hn, .ref hd, .ref hq, .int (b2i go), .int mv])), (hn, .inl (cZ, 165, .inl (fun j => b2i (nb j)))), (hd, .inl (cD, 165, .inr (.inr (.inr (.inl v))))), (hq, .inl (cI, 12, .inl (fun j => nI (ln j)))), (qo, .inl (cJ, 1, .inr (.inl oL)))] H) (va_A [(h0, .inr (1, [.ref hn, .ref hd, .ref hq, .int (b2i go), .int mv])), (hn, .inl (cZ, 165, .inl (fun j => b2i (nb j)))), (hd, .inl (cD, 165, .inr (.inr (.inr (.inl v))))), (hq, .inl (cI, 12, .inl (fun j => nI (ln j)))), (qo, .inl (cJ, 1, .inr (.inl oL)))] zz)) 3 18 (va_A [(h0, .inr (1, [.ref hn, .ref hd, .ref hq, .int (b2i go), .int mv])), (hn, .inl (cZ, 165, .inl (fun j => b2i (nb j)))), (hd, .inl (cD, 165, .inr (.inr (.inr (.inl v))))), (hq, .inl (cI, 12, .inl (fun j => nI (ln j)))), (qo, .inl (cJ, 1, .inr (.inl oL)))] zz) := by
  refine met_of_vx (vx_ofWH (cc := cL_out) (maxL := 5) (ret := some .int) (hh := [(0, 10, 13, 13), (0, 10, 17, 15)]) (by decide) rfl ?_)
  intro p e s m args below meth c s₁ B hml hv
  obtain ⟨rfl, hX, hN, hsz_, hP, hK, hD0⟩ := hv
  have hx := B.exec
  have hb := B.bytes
  have hr := B.returns
  have hts := atoms_spec (ws := wsL_out) B.pre
  have hown : s.vm.findClass RL = some m.cls := findClass_of_methodNamed B.named
  have hlocks := B.notSynchronized
  have htab := vx_table (x := yL_out) (hh := [(0, 10, 13, 13), (0, 10, 17, 15)]) B (hts _ List.mem_cons_self)
  subst hsz_
  have hD := hD0.self (sz := s.heap.size)
  generalize hAe : va_A [(h0, .inr (1, [.ref hn, .ref hd, .ref hq, .int (b2i go), .int mv])), (hn, .inl (cZ, 165, .inl (fun j => b2i (nb j)))), (hd, .inl (cD, 165, .inr (.inr (.inr (.inl v))))), (hq, .inl (cI, 12, .inl (fun j => nI (ln j)))), (qo, .inl (cJ, 1, .inr (.inl oL)))] s.heap.size = A at hD ⊢
  have hA : ∀ q : Nat, s.heap.size ≤ q → A q := fun q h => by rw [← hAe]; exact Or.inr h
  have hS : va_S A s.heap s.heap [] := va_S.rf
  have hl := lv_entry ([.ref h0, .int (nI g), .int (nI w), .ref qo]) (n := 5) (Nat.le_of_ble_eq_true rfl)
  rw [lg_entry_eq]
  generalize (lg_sl ([.ref h0, .int (nI g), .int (nI w), .ref qo]) ++ List.replicate (5 - (lg_sl ([.ref h0, .int (nI g), .int (nI w), .ref qo])).length) Slot.unset).toArray = ls at hl ⊢
  have hl : lv_has ls 5 [(0, .ref h0), (1, .int (nI g)), (2, .int (nI w)), (3, .ref qo)] := hl
  refine lv_aload_n hx hb dL_out_0 rfl (lv_at hl 3 rfl) ?_
  refine lv_iconst (v := nI 0) hx hb dL_out_1 (by decide) ?_
  refine lv_aload_n hx hb dL_out_2 rfl (lv_at hl 0 rfl) ?_
  refine lv_iload_n hx hb dL_out_3 rfl (lv_at hl 1 rfl) ?_
  refine lv_iload_n hx hb dL_out_4 rfl (lv_at hl 2 rfl) ?_
  have hPc : va_P D vwCl (WB h0 hn hd hq cZ cD cI nb v ln go mv) s.heap := hP.sub [0, 1, 2, 3] rfl
  have hDc : va_D A (WB h0 hn hd hq cZ cD cI nb v ln go mv) := hD.sub [0, 1, 2, 3] (by decide) rfl
  have hKc : va_K D vwCl (TY cZ cD cI) s := hK.sub [0, 1, 2] rfl
  refine kv_never (vx_runV (As := [.int (nI g), .int (nI w)]) (rest := [.int (nI 0), .ref qo]) ⟨hx, hb, hml, hown, hts⟩ (c_X0_out_full l D h0 hn hd hq cZ cD cI nb v ln go mv hln hl0 g w hg hw hfull) (cwV 2 hts gL_out_X0_out rfl rfl rfl (by decide +kernel) ⟨Nat.le_of_ble_eq_true rfl, Nat.le_of_ble_eq_true rfl⟩) ⟨fun a U g mk q => ⟨q.1, xOK_call q.2.1 g mk a, q.2.2.1, va_K.moved (u := U) (U := U.calling g mk a) (Vm.Alike.refl U.vm) q.2.2.2⟩, va_recv hKc hPc (ci := 1) (q0 := 0) rfl rfl, fun U hU hW => ⟨rfl, xOK_at hX hU hW, by rw [hU]; exact hPc, va_K.moved hW.alike hKc⟩⟩ rfl rfl hl.1 rfl (lv_room (Nat.le_of_ble_eq_true rfl)) dL_out_5 ⟨Nat.le_of_ble_eq_true rfl, Nat.le_of_ble_eq_true rfl⟩) (fun E9 ce q9 H hE h1 h2 h3 h4 h5 => ?_)
  subst hE
  have hP : va_P D vwCl [(h0, .inr (1, [.ref hn, .ref hd, .ref hq, .int (b2i go), .int mv])), (hn, .inl (cZ, 165, .inl (fun j => b2i (nb j)))), (hd, .inl (cD, 165, .inr (.inr (.inr (.inl v))))), (hq, .inl (cI, 12, .inl (fun j => nI (ln j)))), (qo, .inl (cJ, 1, .inr (.inl oL)))] H := hP.kept (fun k q hk => h2 q.1 (vx_lt hP hk))
  have hS : va_S A s.heap H [] := ⟨h1, fun q hq _ => h2 q hq, fun q hq => absurd hq List.not_mem_nil⟩
  refine vx_catch (E := ISE) (name := ISE) hown [⟨0, 10, 13, 13⟩] ⟨0, 10, 17, 15⟩ [] htab (fun z hz => (List.mem_cons.mp hz).elim (fun e9 => by rw [e9]; exact Or.inr ⟨by decide, IAE, hts (.classLink RL 13 IAE) (by decide +kernel), hN.1⟩) (fun hz => absurd hz List.not_mem_nil)) (by decide) (by decide) (hts (.classLink RL 15 ISE) (by decide +kernel)) (xC.word hX.2.2.2.2.1) h3 h4 h5 ?_
  show W p l e _ s m _ below meth c H [] _ _ _ (F0 m 17 ls [.ref q9])
  refine lv_astore (lv' := [(4, .ref q9), (0, .ref h0), (1, .int (nI g)), (2, .int (nI w)), (3, .ref qo)]) hx hb dL_out_17 hl (by decide) rfl (fun ls hl => ?_)
  refine lv_iconst (v := nI 2) hx hb dL_out_19 (by decide) ?_
  refine vx_ret ?_
  refine W.widen (k := 3) (n := 18) (Nat.le_of_ble_eq_true rfl) (Nat.le_of_ble_eq_true rfl) ?_
  exact W.iret (v := nI 2) hx hb hr (fun t9 ht9 hW9 => ⟨⟨_, rfl, rfl, by rw [ht9]; exact hP⟩, hS.F ht9⟩) hS.2.2 dL_out_20
set_option maxHeartbeats 4000000 in
set_option maxRecDepth 100000 in
theorem w_out_bad (l : Launch) (D : va_G) (h0 hn hd hq qo : Nat) (cZ cD cI cJ : ClassId) (nb : Nat → Bool) (v : Nat → UInt64) (ln : Nat → Nat) (go : Bool) (mv : Int32) (oL : Nat → Int64) (hln : ∀ j, ln j ≤ 12) (hl0 : l.stackTraces = false) (zz : Nat) (x0 : Int32) (x1 : Int32) (hbad : ¬ (InN 6 x0 ∧ InN 2 x1)) : Met l yL_out wsL_out ({ frames := 8, cells := 2, slots := 12, locals := 124 }) (va_Pc [.ref h0, .int x0, .int x1, .ref qo] (fun U => xOK U ∧ xN U ∧ U.heap.size = zz ∧ va_P D vwCl [(h0, .inr (1, [.ref hn, .ref hd, .ref hq, .int (b2i go), .int mv])), (hn, .inl (cZ, 165, .inl (fun j => b2i (nb j)))), (hd, .inl (cD, 165, .inr (.inr (.inr (.inl v))))), (hq, .inl (cI, 12, .inl (fun j => nI (ln j)))), (qo, .inl (cJ, 1, .inr (.inl oL)))] U.heap ∧ va_K D vwCl (TYL cZ cD cI cJ) U ∧ va_D (fun _ => True) [(h0, .inr (1, [.ref hn, .ref hd, .ref hq, .int (b2i go), .int mv])), (hn, .inl (cZ, 165, .inl (fun j => b2i (nb j)))), (hd, .inl (cD, 165, .inr (.inr (.inr (.inl v))))), (hq, .inl (cI, 12, .inl (fun j => nI (ln j)))), (qo, .inl (cJ, 1, .inr (.inl oL)))])) (wr_Qi (fun r => r = nI 1) (fun H => va_P D vwCl [(h0, .inr (1, [.ref hn, .ref hd, .ref hq, .int (b2i go), .int mv])), (hn, .inl (cZ, 165, .inl (fun j => b2i (nb j)))), (hd, .inl (cD, 165, .inr (.inr (.inr (.inl v))))), (hq, .inl (cI, 12, .inl (fun j => nI (ln j)))), (qo, .inl (cJ, 1, .inr (.inl oL)))] H) (va_A [(h0, .inr (1, [.ref hn, .ref hd, .ref hq, .int (b2i go), .int mv])), (hn, .inl (cZ, 165, .inl (fun j => b2i (nb j)))), (hd, .inl (cD, 165, .inr (.inr (.inr (.inl v))))), (hq, .inl (cI, 12, .inl (fun j => nI (ln j)))), (qo, .inl (cJ, 1, .inr (.inl oL)))] zz)) 2 12 (va_A [(h0, .inr (1, [.ref hn, .ref hd, .ref hq, .int (b2i go), .int mv])), (hn, .inl (cZ, 165, .inl (fun j => b2i (nb j)))), (hd, .inl (cD, 165, .inr (.inr (.inr (.inl v))))), (hq, .inl (cI, 12, .inl (fun j => nI (ln j)))), (qo, .inl (cJ, 1, .inr (.inl oL)))] zz) := by
  refine met_of_vx (vx_ofWH (cc := cL_out) (maxL := 5) (ret := some .int) (hh := [(0, 10, 13, 13), (0, 10, 17, 15)]) (by decide) rfl ?_)
  intro p e s m args below meth c s₁ B hml hv
  obtain ⟨rfl, hX, hN, hsz_, hP, hK, hD0⟩ := hv
  have hx := B.exec
  have hb := B.bytes
  have hr := B.returns
  have hts := atoms_spec (ws := wsL_out) B.pre
  have hown : s.vm.findClass RL = some m.cls := findClass_of_methodNamed B.named
  have hlocks := B.notSynchronized
  have htab := vx_table (x := yL_out) (hh := [(0, 10, 13, 13), (0, 10, 17, 15)]) B (hts _ List.mem_cons_self)
  subst hsz_
  have hD := hD0.self (sz := s.heap.size)
  generalize hAe : va_A [(h0, .inr (1, [.ref hn, .ref hd, .ref hq, .int (b2i go), .int mv])), (hn, .inl (cZ, 165, .inl (fun j => b2i (nb j)))), (hd, .inl (cD, 165, .inr (.inr (.inr (.inl v))))), (hq, .inl (cI, 12, .inl (fun j => nI (ln j)))), (qo, .inl (cJ, 1, .inr (.inl oL)))] s.heap.size = A at hD ⊢
  have hA : ∀ q : Nat, s.heap.size ≤ q → A q := fun q h => by rw [← hAe]; exact Or.inr h
  have hS : va_S A s.heap s.heap [] := va_S.rf
  have hl := lv_entry ([.ref h0, .int x0, .int x1, .ref qo]) (n := 5) (Nat.le_of_ble_eq_true rfl)
  rw [lg_entry_eq]
  generalize (lg_sl ([.ref h0, .int x0, .int x1, .ref qo]) ++ List.replicate (5 - (lg_sl ([.ref h0, .int x0, .int x1, .ref qo])).length) Slot.unset).toArray = ls at hl ⊢
  have hl : lv_has ls 5 [(0, .ref h0), (1, .int x0), (2, .int x1), (3, .ref qo)] := hl
  refine lv_aload_n hx hb dL_out_0 rfl (lv_at hl 3 rfl) ?_
  refine lv_iconst (v := nI 0) hx hb dL_out_1 (by decide) ?_
  refine lv_aload_n hx hb dL_out_2 rfl (lv_at hl 0 rfl) ?_
  refine lv_iload_n hx hb dL_out_3 rfl (lv_at hl 1 rfl) ?_
  refine lv_iload_n hx hb dL_out_4 rfl (lv_at hl 2 rfl) ?_
  have hPc : va_P D vwCl (WB h0 hn hd hq cZ cD cI nb v ln go mv) s.heap := hP.sub [0, 1, 2, 3] rfl
  have hDc : va_D A (WB h0 hn hd hq cZ cD cI nb v ln go mv) := hD.sub [0, 1, 2, 3] (by decide) rfl
  have hKc : va_K D vwCl (TY cZ cD cI) s := hK.sub [0, 1, 2] rfl
  refine kv_never (vx_runV (As := [.int x0, .int x1]) (rest := [.int (nI 0), .ref qo]) ⟨hx, hb, hml, hown, hts⟩ (c_X0_out_bad l D h0 hn hd hq cZ cD cI nb v ln go mv hln hl0 x0 x1 hbad) (cwV 2 hts gL_out_X0_out rfl rfl rfl (by decide +kernel) ⟨Nat.le_of_ble_eq_true rfl, Nat.le_of_ble_eq_true rfl⟩) ⟨fun a U g mk q => ⟨q.1, xOK_call q.2.1 g mk a, q.2.2.1, va_K.moved (u := U) (U := U.calling g mk a) (Vm.Alike.refl U.vm) q.2.2.2⟩, va_recv hKc hPc (ci := 1) (q0 := 0) rfl rfl, fun U hU hW => ⟨rfl, xOK_at hX hU hW, by rw [hU]; exact hPc, va_K.moved hW.alike hKc⟩⟩ rfl rfl hl.1 rfl (lv_room (Nat.le_of_ble_eq_true rfl)) dL_out_5 ⟨Nat.le_of_ble_eq_true rfl, Nat.le_of_ble_eq_true rfl⟩) (fun E9 ce q9 H hE h1 h2 h3 h4 h5 => ?_)
  subst hE
  have hP : va_P D vwCl [(h0, .inr (1, [.ref hn, .ref hd, .ref hq, .int (b2i go), .int mv])), (hn, .inl (cZ, 165, .inl (fun j => b2i (nb j)))), (hd, .inl (cD, 165, .inr (.inr (.inr (.inl v))))), (hq, .inl (cI, 12, .inl (fun j => nI (ln j)))), (qo, .inl (cJ, 1, .inr (.inl oL)))] H := hP.kept (fun k q hk => h2 q.1 (vx_lt hP hk))
  have hS : va_S A s.heap H [] := ⟨h1, fun q hq _ => h2 q hq, fun q hq => absurd hq List.not_mem_nil⟩
  refine vx_catch (E := IAE) (name := IAE) hown [] ⟨0, 10, 13, 13⟩ [⟨0, 10, 17, 15⟩] htab (fun z hz => absurd hz List.not_mem_nil) (by decide) (by decide) (hts (.classLink RL 13 IAE) (by decide +kernel)) (xC.word hX.2.2.2.1) h3 h4 h5 ?_
  show W p l e _ s m _ below meth c H [] _ _ _ (F0 m 13 ls [.ref q9])
  refine lv_astore (lv' := [(4, .ref q9), (0, .ref h0), (1, .int x0), (2, .int x1), (3, .ref qo)]) hx hb dL_out_13 hl (by decide) rfl (fun ls hl => ?_)
  refine lv_iconst (v := nI 1) hx hb dL_out_15 (by decide) ?_
  refine vx_ret ?_
  refine W.widen (k := 2) (n := 12) (Nat.le_of_ble_eq_true rfl) (Nat.le_of_ble_eq_true rfl) ?_
  exact W.iret (v := nI 1) hx hb hr (fun t9 ht9 hW9 => ⟨⟨_, rfl, rfl, by rw [ht9]; exact hP⟩, hS.F ht9⟩) hS.2.2 dL_out_16
set_option maxHeartbeats 4000000 in
set_option maxRecDepth 100000 in
theorem w_clear (l : Launch) (D : va_G) (h0 hn hd hq qo : Nat) (cZ cD cI cJ : ClassId) (nb : Nat → Bool) (v : Nat → UInt64) (ln : Nat → Nat) (go : Bool) (mv : Int32) (oL : Nat → Int64) (hln : ∀ j, ln j ≤ 12) (hl0 : l.stackTraces = false) (zz : Nat) (g : Nat) (hg : g < 6) : Met l yL_clear wsL_clear ({ frames := 8, cells := 1, slots := 6, locals := 123 }) (va_Pc [.ref h0, .int (nI g), .ref qo] (fun U => xOK U ∧ xN U ∧ U.heap.size = zz ∧ va_P D vwCl [(h0, .inr (1, [.ref hn, .ref hd, .ref hq, .int (b2i go), .int mv])), (hn, .inl (cZ, 165, .inl (fun j => b2i (nb j)))), (hd, .inl (cD, 165, .inr (.inr (.inr (.inl v))))), (hq, .inl (cI, 12, .inl (fun j => nI (ln j)))), (qo, .inl (cJ, 1, .inr (.inl oL)))] U.heap ∧ va_K D vwCl (TYL cZ cD cI cJ) U ∧ va_D (fun _ => True) [(h0, .inr (1, [.ref hn, .ref hd, .ref hq, .int (b2i go), .int mv])), (hn, .inl (cZ, 165, .inl (fun j => b2i (nb j)))), (hd, .inl (cD, 165, .inr (.inr (.inr (.inl v))))), (hq, .inl (cI, 12, .inl (fun j => nI (ln j)))), (qo, .inl (cJ, 1, .inr (.inl oL)))])) (wr_Qi (fun r => r = nI 0) (fun H => va_P D vwCl [(h0, .inr (1, [.ref hn, .ref hd, .ref hq, .int (b2i go), .int mv])), (hn, .inl (cZ, 165, .inl (fun j => b2i (nb j)))), (hd, .inl (cD, 165, .inr (.inr (.inr (.inl v))))), (hq, .inl (cI, 12, .inl (fun j => nI (((up (up ln (g * 2 + 0) 0) (g * 2 + 1) 0)) j)))), (qo, .inl (cJ, 1, .inr (.inl (up oL 0 (Int32.toInt64 (nI (ln (g * 2 + 0) + ln (g * 2 + 1))))))))] H) (va_A [(h0, .inr (1, [.ref hn, .ref hd, .ref hq, .int (b2i go), .int mv])), (hn, .inl (cZ, 165, .inl (fun j => b2i (nb j)))), (hd, .inl (cD, 165, .inr (.inr (.inr (.inl v))))), (hq, .inl (cI, 12, .inl (fun j => nI (ln j)))), (qo, .inl (cJ, 1, .inr (.inl oL)))] zz)) 1 6 (va_A [(h0, .inr (1, [.ref hn, .ref hd, .ref hq, .int (b2i go), .int mv])), (hn, .inl (cZ, 165, .inl (fun j => b2i (nb j)))), (hd, .inl (cD, 165, .inr (.inr (.inr (.inl v))))), (hq, .inl (cI, 12, .inl (fun j => nI (ln j)))), (qo, .inl (cJ, 1, .inr (.inl oL)))] zz) := by
  refine met_of_vx (vx_ofWH (cc := cL_clear) (maxL := 4) (ret := some .int) (hh := [(0, 9, 12, 13)]) (by decide) rfl ?_)
  intro p e s m args below meth c s₁ B hml hv
  obtain ⟨rfl, hX, hN, hsz_, hP, hK, hD0⟩ := hv
  have hx := B.exec
  have hb := B.bytes
  have hr := B.returns
  have hts := atoms_spec (ws := wsL_clear) B.pre
  have hown : s.vm.findClass RL = some m.cls := findClass_of_methodNamed B.named
  have hlocks := B.notSynchronized
  have htab := vx_table (x := yL_clear) (hh := [(0, 9, 12, 13)]) B (hts _ List.mem_cons_self)
  subst hsz_
  have hD := hD0.self (sz := s.heap.size)
  generalize hAe : va_A [(h0, .inr (1, [.ref hn, .ref hd, .ref hq, .int (b2i go), .int mv])), (hn, .inl (cZ, 165, .inl (fun j => b2i (nb j)))), (hd, .inl (cD, 165, .inr (.inr (.inr (.inl v))))), (hq, .inl (cI, 12, .inl (fun j => nI (ln j)))), (qo, .inl (cJ, 1, .inr (.inl oL)))] s.heap.size = A at hD ⊢
  have hA : ∀ q : Nat, s.heap.size ≤ q → A q := fun q h => by rw [← hAe]; exact Or.inr h
  have hS : va_S A s.heap s.heap [] := va_S.rf
  have hl := lv_entry ([.ref h0, .int (nI g), .ref qo]) (n := 4) (Nat.le_of_ble_eq_true rfl)
  rw [lg_entry_eq]
  generalize (lg_sl ([.ref h0, .int (nI g), .ref qo]) ++ List.replicate (4 - (lg_sl ([.ref h0, .int (nI g), .ref qo])).length) Slot.unset).toArray = ls at hl ⊢
  have hl : lv_has ls 4 [(0, .ref h0), (1, .int (nI g)), (2, .ref qo)] := hl
  refine lv_aload_n hx hb dL_clear_0 rfl (lv_at hl 2 rfl) ?_
  refine lv_iconst (v := nI 0) hx hb dL_clear_1 (by decide) ?_
  refine lv_aload_n hx hb dL_clear_2 rfl (lv_at hl 0 rfl) ?_
  refine lv_iload_n hx hb dL_clear_3 rfl (lv_at hl 1 rfl) ?_
  have hPc : va_P D vwCl (WB h0 hn hd hq cZ cD cI nb v ln go mv) s.heap := hP.sub [0, 1, 2, 3] rfl
  have hDc : va_D A (WB h0 hn hd hq cZ cD cI nb v ln go mv) := hD.sub [0, 1, 2, 3] (by decide) rfl
  have hKc : va_K D vwCl (TY cZ cD cI) s := hK.sub [0, 1, 2] rfl
  have hFc := va_free (wc := WB h0 hn hd hq cZ cD cI nb v ln go mv) hD hS hA [0, 1, 2, 3] rfl
  refine wr_calli (va_runV (As := [.int (nI g)]) (rest := [.int (nI 0), .ref qo]) ⟨hx, hb, hml, hown, hts⟩ (c_X0_clear l D h0 hn hd hq cZ cD cI nb v ln go mv hln hl0 s.heap.size g hg) (cwV 1 hts gL_clear_X0_clear rfl rfl rfl (by decide +kernel) ⟨Nat.le_of_ble_eq_true rfl, Nat.le_of_ble_eq_true rfl⟩) ⟨fun a U g mk q => ⟨q.1, xOK_call q.2.1 g mk a, q.2.2.1, q.2.2.2.1, va_K.moved (u := U) (U := U.calling g mk a) (Vm.Alike.refl U.vm) q.2.2.2.2.1, q.2.2.2.2.2⟩, va_recv hKc hPc (ci := 1) (q0 := 0) rfl rfl, fun U hU hW => ⟨rfl, xOK_at hX hU hW, by rw [hU], by rw [hU]; exact hPc, va_K.moved hW.alike hKc, hDc.weaken (fun _ _ _ _ => trivial)⟩⟩ rfl rfl hl.1 rfl (lv_room (Nat.le_of_ble_eq_true rfl)) dL_clear_4 ⟨Nat.le_of_ble_eq_true rfl, Nat.le_of_ble_eq_true rfl⟩) hS hFc (fun r_1 H locs hr_1 hP1 hz1 hk1 hS => ?_)
  subst hr_1
  obtain ⟨hP, -⟩ := va_join (wr := [(qo, .inl (cJ, 1, .inr (.inl oL)))]) (w1 := WB h0 hn hd hq cZ cD cI nb v (up (up ln (g * 2 + 0) 0) (g * 2 + 1) 0) go mv) hP hD [0, 1, 2, 3] [4] rfl rfl (by decide) (by decide) hk1 hFc hP1 (va_D_same (ws := WB h0 hn hd hq cZ cD cI nb v ln go mv) rfl (hDc.self (sz := s.heap.size)))
  have hP : va_P D vwCl [(h0, .inr (1, [.ref hn, .ref hd, .ref hq, .int (b2i go), .int mv])), (hn, .inl (cZ, 165, .inl (fun j => b2i (nb j)))), (hd, .inl (cD, 165, .inr (.inr (.inr (.inl v))))), (hq, .inl (cI, 12, .inl (fun j => nI (((up (up ln (g * 2 + 0) 0) (g * 2 + 1) 0)) j)))), (qo, .inl (cJ, 1, .inr (.inl oL)))] H := hP.sub [1, 2, 3, 4, 0] rfl
  have hD : va_D A [(h0, .inr (1, [.ref hn, .ref hd, .ref hq, .int (b2i go), .int mv])), (hn, .inl (cZ, 165, .inl (fun j => b2i (nb j)))), (hd, .inl (cD, 165, .inr (.inr (.inr (.inl v))))), (hq, .inl (cI, 12, .inl (fun j => nI (((up (up ln (g * 2 + 0) 0) (g * 2 + 1) 0)) j)))), (qo, .inl (cJ, 1, .inr (.inl oL)))] := va_D_same (ws := [(h0, .inr (1, [.ref hn, .ref hd, .ref hq, .int (b2i go), .int mv])), (hn, .inl (cZ, 165, .inl (fun j => b2i (nb j)))), (hd, .inl (cD, 165, .inr (.inr (.inr (.inl v))))), (hq, .inl (cI, 12, .inl (fun j => nI (ln j)))), (qo, .inl (cJ, 1, .inr (.inl oL)))]) rfl hD
  refine lv_i2l hx hb dL_clear_7 rfl ?_
  refine kn_last hx hb hK hP hD hS 4 3 rfl rfl (by omega) (by decide) dL_clear_8 (fun H locs hP hD hS => ?_)
  have hP : va_P D vwCl ([(h0, .inr (1, [.ref hn, .ref hd, .ref hq, .int (b2i go), .int mv])), (hn, .inl (cZ, 165, .inl (fun j => b2i (nb j)))), (hd, .inl (cD, 165, .inr (.inr (.inr (.inl v))))), (hq, .inl (cI, 12, .inl (fun j => nI (((up (up ln (g * 2 + 0) 0) (g * 2 + 1) 0)) j)))), (qo, .inl (cJ, 1, .inr (.inl (up oL 0 (Int32.toInt64 (nI (ln (g * 2 + 0) + ln (g * 2 + 1))))))))]) H := hP
  have hD : va_D A ([(h0, .inr (1, [.ref hn, .ref hd, .ref hq, .int (b2i go), .int mv])), (hn, .inl (cZ, 165, .inl (fun j => b2i (nb j)))), (hd, .inl (cD, 165, .inr (.inr (.inr (.inl v))))), (hq, .inl (cI, 12, .inl (fun j => nI (((up (up ln (g * 2 + 0) 0) (g * 2 + 1) 0)) j)))), (qo, .inl (cJ, 1, .inr (.inl (up oL 0 (Int32.toInt64 (nI (ln (g * 2 + 0) + ln (g * 2 + 1))))))))]) := hD
  refine lv_goto (tgt := 15) hx hb dL_clear_9 (by decide) ?_
  refine lv_iconst (v := nI 0) hx hb dL_clear_15 (by decide) ?_
  refine vx_ret ?_
  refine W.widen (k := 1) (n := 6) (Nat.le_of_ble_eq_true rfl) (Nat.le_of_ble_eq_true rfl) ?_
  exact W.iret (v := nI 0) hx hb hr (fun t9 ht9 hW9 => ⟨⟨_, rfl, rfl, by rw [ht9]; exact hP⟩, hS.F ht9⟩) hS.2.2 dL_clear_16
set_option maxHeartbeats 4000000 in
set_option maxRecDepth 100000 in
theorem w_clear_bad (l : Launch) (D : va_G) (h0 hn hd hq qo : Nat) (cZ cD cI cJ : ClassId) (nb : Nat → Bool) (v : Nat → UInt64) (ln : Nat → Nat) (go : Bool) (mv : Int32) (oL : Nat → Int64) (hln : ∀ j, ln j ≤ 12) (hl0 : l.stackTraces = false) (zz : Nat) (x0 : Int32) (hbad : ¬ (InN 6 x0)) : Met l yL_clear wsL_clear ({ frames := 8, cells := 1, slots := 6, locals := 123 }) (va_Pc [.ref h0, .int x0, .ref qo] (fun U => xOK U ∧ xN U ∧ U.heap.size = zz ∧ va_P D vwCl [(h0, .inr (1, [.ref hn, .ref hd, .ref hq, .int (b2i go), .int mv])), (hn, .inl (cZ, 165, .inl (fun j => b2i (nb j)))), (hd, .inl (cD, 165, .inr (.inr (.inr (.inl v))))), (hq, .inl (cI, 12, .inl (fun j => nI (ln j)))), (qo, .inl (cJ, 1, .inr (.inl oL)))] U.heap ∧ va_K D vwCl (TYL cZ cD cI cJ) U ∧ va_D (fun _ => True) [(h0, .inr (1, [.ref hn, .ref hd, .ref hq, .int (b2i go), .int mv])), (hn, .inl (cZ, 165, .inl (fun j => b2i (nb j)))), (hd, .inl (cD, 165, .inr (.inr (.inr (.inl v))))), (hq, .inl (cI, 12, .inl (fun j => nI (ln j)))), (qo, .inl (cJ, 1, .inr (.inl oL)))])) (wr_Qi (fun r => r = nI 1) (fun H => va_P D vwCl [(h0, .inr (1, [.ref hn, .ref hd, .ref hq, .int (b2i go), .int mv])), (hn, .inl (cZ, 165, .inl (fun j => b2i (nb j)))), (hd, .inl (cD, 165, .inr (.inr (.inr (.inl v))))), (hq, .inl (cI, 12, .inl (fun j => nI (ln j)))), (qo, .inl (cJ, 1, .inr (.inl oL)))] H) (va_A [(h0, .inr (1, [.ref hn, .ref hd, .ref hq, .int (b2i go), .int mv])), (hn, .inl (cZ, 165, .inl (fun j => b2i (nb j)))), (hd, .inl (cD, 165, .inr (.inr (.inr (.inl v))))), (hq, .inl (cI, 12, .inl (fun j => nI (ln j)))), (qo, .inl (cJ, 1, .inr (.inl oL)))] zz)) 1 6 (va_A [(h0, .inr (1, [.ref hn, .ref hd, .ref hq, .int (b2i go), .int mv])), (hn, .inl (cZ, 165, .inl (fun j => b2i (nb j)))), (hd, .inl (cD, 165, .inr (.inr (.inr (.inl v))))), (hq, .inl (cI, 12, .inl (fun j => nI (ln j)))), (qo, .inl (cJ, 1, .inr (.inl oL)))] zz) := by
  refine met_of_vx (vx_ofWH (cc := cL_clear) (maxL := 4) (ret := some .int) (hh := [(0, 9, 12, 13)]) (by decide) rfl ?_)
  intro p e s m args below meth c s₁ B hml hv
  obtain ⟨rfl, hX, hN, hsz_, hP, hK, hD0⟩ := hv
  have hx := B.exec
  have hb := B.bytes
  have hr := B.returns
  have hts := atoms_spec (ws := wsL_clear) B.pre
  have hown : s.vm.findClass RL = some m.cls := findClass_of_methodNamed B.named
  have hlocks := B.notSynchronized
  have htab := vx_table (x := yL_clear) (hh := [(0, 9, 12, 13)]) B (hts _ List.mem_cons_self)
  subst hsz_
  have hD := hD0.self (sz := s.heap.size)
  generalize hAe : va_A [(h0, .inr (1, [.ref hn, .ref hd, .ref hq, .int (b2i go), .int mv])), (hn, .inl (cZ, 165, .inl (fun j => b2i (nb j)))), (hd, .inl (cD, 165, .inr (.inr (.inr (.inl v))))), (hq, .inl (cI, 12, .inl (fun j => nI (ln j)))), (qo, .inl (cJ, 1, .inr (.inl oL)))] s.heap.size = A at hD ⊢
  have hA : ∀ q : Nat, s.heap.size ≤ q → A q := fun q h => by rw [← hAe]; exact Or.inr h
  have hS : va_S A s.heap s.heap [] := va_S.rf
  have hl := lv_entry ([.ref h0, .int x0, .ref qo]) (n := 4) (Nat.le_of_ble_eq_true rfl)
  rw [lg_entry_eq]
  generalize (lg_sl ([.ref h0, .int x0, .ref qo]) ++ List.replicate (4 - (lg_sl ([.ref h0, .int x0, .ref qo])).length) Slot.unset).toArray = ls at hl ⊢
  have hl : lv_has ls 4 [(0, .ref h0), (1, .int x0), (2, .ref qo)] := hl
  refine lv_aload_n hx hb dL_clear_0 rfl (lv_at hl 2 rfl) ?_
  refine lv_iconst (v := nI 0) hx hb dL_clear_1 (by decide) ?_
  refine lv_aload_n hx hb dL_clear_2 rfl (lv_at hl 0 rfl) ?_
  refine lv_iload_n hx hb dL_clear_3 rfl (lv_at hl 1 rfl) ?_
  have hPc : va_P D vwCl (WB h0 hn hd hq cZ cD cI nb v ln go mv) s.heap := hP.sub [0, 1, 2, 3] rfl
  have hDc : va_D A (WB h0 hn hd hq cZ cD cI nb v ln go mv) := hD.sub [0, 1, 2, 3] (by decide) rfl
  have hKc : va_K D vwCl (TY cZ cD cI) s := hK.sub [0, 1, 2] rfl
  refine kv_never (vx_runV (As := [.int x0]) (rest := [.int (nI 0), .ref qo]) ⟨hx, hb, hml, hown, hts⟩ (c_X0_clear_bad l D h0 hn hd hq cZ cD cI nb v ln go mv hln hl0 x0 hbad) (cwV 1 hts gL_clear_X0_clear rfl rfl rfl (by decide +kernel) ⟨Nat.le_of_ble_eq_true rfl, Nat.le_of_ble_eq_true rfl⟩) ⟨fun a U g mk q => ⟨q.1, xOK_call q.2.1 g mk a, q.2.2.1, va_K.moved (u := U) (U := U.calling g mk a) (Vm.Alike.refl U.vm) q.2.2.2⟩, va_recv hKc hPc (ci := 1) (q0 := 0) rfl rfl, fun U hU hW => ⟨rfl, xOK_at hX hU hW, by rw [hU]; exact hPc, va_K.moved hW.alike hKc⟩⟩ rfl rfl hl.1 rfl (lv_room (Nat.le_of_ble_eq_true rfl)) dL_clear_4 ⟨Nat.le_of_ble_eq_true rfl, Nat.le_of_ble_eq_true rfl⟩) (fun E9 ce q9 H hE h1 h2 h3 h4 h5 => ?_)
  subst hE
  have hP : va_P D vwCl [(h0, .inr (1, [.ref hn, .ref hd, .ref hq, .int (b2i go), .int mv])), (hn, .inl (cZ, 165, .inl (fun j => b2i (nb j)))), (hd, .inl (cD, 165, .inr (.inr (.inr (.inl v))))), (hq, .inl (cI, 12, .inl (fun j => nI (ln j)))), (qo, .inl (cJ, 1, .inr (.inl oL)))] H := hP.kept (fun k q hk => h2 q.1 (vx_lt hP hk))
  have hS : va_S A s.heap H [] := ⟨h1, fun q hq _ => h2 q hq, fun q hq => absurd hq List.not_mem_nil⟩
  refine vx_catch (E := IAE) (name := IAE) hown [] ⟨0, 9, 12, 13⟩ [] htab (fun z hz => absurd hz List.not_mem_nil) (by decide) (by decide) (hts (.classLink RL 13 IAE) (by decide +kernel)) (xC.word hX.2.2.2.1) h3 h4 h5 ?_
  show W p l e _ s m _ below meth c H [] _ _ _ (F0 m 12 ls [.ref q9])
  refine lv_astore_n (lv' := [(3, .ref q9), (0, .ref h0), (1, .int x0), (2, .ref qo)]) hx hb dL_clear_12 rfl hl (by decide) rfl (fun ls hl => ?_)
  refine lv_iconst (v := nI 1) hx hb dL_clear_13 (by decide) ?_
  refine vx_ret ?_
  refine W.widen (k := 1) (n := 6) (Nat.le_of_ble_eq_true rfl) (Nat.le_of_ble_eq_true rfl) ?_
  exact W.iret (v := nI 1) hx hb hr (fun t9 ht9 hW9 => ⟨⟨_, rfl, rfl, by rw [ht9]; exact hP⟩, hS.F ht9⟩) hS.2.2 dL_clear_14
set_option maxHeartbeats 4000000 in
set_option maxRecDepth 100000 in
theorem w_mark (l : Launch) (D : va_G) (h0 hn hd hq qo : Nat) (cZ cD cI cJ : ClassId) (nb : Nat → Bool) (v : Nat → UInt64) (ln : Nat → Nat) (go : Bool) (mv : Int32) (oL : Nat → Int64) (hln : ∀ j, ln j ≤ 12) (hl0 : l.stackTraces = false) (zz : Nat) (g : Nat) (k : Nat) (x : UInt64) (hg : g < 6) (hk : k < 2) (hlv : lvl x = true) : Met l yL_mark wsL_mark ({ frames := 8, cells := 2, slots := 12, locals := 127 }) (va_Pc [.ref h0, .int (nI g), .int (nI k), .double x, .ref qo] (fun U => xOK U ∧ xN U ∧ U.heap.size = zz ∧ va_P D vwCl [(h0, .inr (1, [.ref hn, .ref hd, .ref hq, .int (b2i go), .int mv])), (hn, .inl (cZ, 165, .inl (fun j => b2i (nb j)))), (hd, .inl (cD, 165, .inr (.inr (.inr (.inl v))))), (hq, .inl (cI, 12, .inl (fun j => nI (ln j)))), (qo, .inl (cJ, 1, .inr (.inl oL)))] U.heap ∧ va_K D vwCl (TYL cZ cD cI cJ) U ∧ va_D (fun _ => True) [(h0, .inr (1, [.ref hn, .ref hd, .ref hq, .int (b2i go), .int mv])), (hn, .inl (cZ, 165, .inl (fun j => b2i (nb j)))), (hd, .inl (cD, 165, .inr (.inr (.inr (.inl v))))), (hq, .inl (cI, 12, .inl (fun j => nI (ln j)))), (qo, .inl (cJ, 1, .inr (.inl oL)))])) (wr_Qi (fun r => r = nI 0) (fun H => va_P D vwCl [(h0, .inr (1, [.ref hn, .ref hd, .ref hq, .int (b2i go), .int mv])), (hn, .inl (cZ, 165, .inl (fun j => b2i (((up nb (144 + g * 3 + k) true)) j)))), (hd, .inl (cD, 165, .inr (.inr (.inr (.inl ((up v (144 + g * 3 + k) x))))))), (hq, .inl (cI, 12, .inl (fun j => nI (ln j)))), (qo, .inl (cJ, 1, .inr (.inl (up oL 0 (b2l (nb (144 + g * 3 + k)))))))] H) (va_A [(h0, .inr (1, [.ref hn, .ref hd, .ref hq, .int (b2i go), .int mv])), (hn, .inl (cZ, 165, .inl (fun j => b2i (nb j)))), (hd, .inl (cD, 165, .inr (.inr (.inr (.inl v))))), (hq, .inl (cI, 12, .inl (fun j => nI (ln j)))), (qo, .inl (cJ, 1, .inr (.inl oL)))] zz)) 2 12 (va_A [(h0, .inr (1, [.ref hn, .ref hd, .ref hq, .int (b2i go), .int mv])), (hn, .inl (cZ, 165, .inl (fun j => b2i (nb j)))), (hd, .inl (cD, 165, .inr (.inr (.inr (.inl v))))), (hq, .inl (cI, 12, .inl (fun j => nI (ln j)))), (qo, .inl (cJ, 1, .inr (.inl oL)))] zz) := by
  refine met_of_vx (vx_ofWH (cc := cL_mark) (maxL := 7) (ret := some .int) (hh := [(0, 19, 22, 13)]) (by decide) rfl ?_)
  intro p e s m args below meth c s₁ B hml hv
  obtain ⟨rfl, hX, hN, hsz_, hP, hK, hD0⟩ := hv
  have hx := B.exec
  have hb := B.bytes
  have hr := B.returns
  have hts := atoms_spec (ws := wsL_mark) B.pre
  have hown : s.vm.findClass RL = some m.cls := findClass_of_methodNamed B.named
  have hlocks := B.notSynchronized
  have htab := vx_table (x := yL_mark) (hh := [(0, 19, 22, 13)]) B (hts _ List.mem_cons_self)
  subst hsz_
  have hD := hD0.self (sz := s.heap.size)
  generalize hAe : va_A [(h0, .inr (1, [.ref hn, .ref hd, .ref hq, .int (b2i go), .int mv])), (hn, .inl (cZ, 165, .inl (fun j => b2i (nb j)))), (hd, .inl (cD, 165, .inr (.inr (.inr (.inl v))))), (hq, .inl (cI, 12, .inl (fun j => nI (ln j)))), (qo, .inl (cJ, 1, .inr (.inl oL)))] s.heap.size = A at hD ⊢
  have hA : ∀ q : Nat, s.heap.size ≤ q → A q := fun q h => by rw [← hAe]; exact Or.inr h
  have hS : va_S A s.heap s.heap [] := va_S.rf
  have hl := lv_entry ([.ref h0, .int (nI g), .int (nI k), .double x, .ref qo]) (n := 7) (Nat.le_of_ble_eq_true rfl)
  rw [lg_entry_eq]
  generalize (lg_sl ([.ref h0, .int (nI g), .int (nI k), .double x, .ref qo]) ++ List.replicate (7 - (lg_sl ([.ref h0, .int (nI g), .int (nI k), .double x, .ref qo])).length) Slot.unset).toArray = ls at hl ⊢
  have hl : lv_has ls 7 [(0, .ref h0), (1, .int (nI g)), (2, .int (nI k)), (3, .double x), (5, .ref qo)] := hl
  refine lv_aload hx hb dL_mark_0 (lv_at hl 4 rfl) ?_
  refine lv_iconst (v := nI 0) hx hb dL_mark_2 (by decide) ?_
  refine lv_aload_n hx hb dL_mark_3 rfl (lv_at hl 0 rfl) ?_
  refine lv_iload_n hx hb dL_mark_4 rfl (lv_at hl 1 rfl) ?_
  refine lv_iload_n hx hb dL_mark_5 rfl (lv_at hl 2 rfl) ?_
  refine lv_dload_n hx hb dL_mark_6 rfl (lv_at hl 3 rfl) ?_
  have hPc : va_P D vwCl (WB h0 hn hd hq cZ cD cI nb v ln go mv) s.heap := hP.sub [0, 1, 2, 3] rfl
  have hDc : va_D A (WB h0 hn hd hq cZ cD cI nb v ln go mv) := hD.sub [0, 1, 2, 3] (by decide) rfl
  have hKc : va_K D vwCl (TY cZ cD cI) s := hK.sub [0, 1, 2] rfl
  have hFc := va_free (wc := WB h0 hn hd hq cZ cD cI nb v ln go mv) hD hS hA [0, 1, 2, 3] rfl
  refine wr_calli (va_runV (As := [.int (nI g), .int (nI k), .double x]) (rest := [.int (nI 0), .ref qo]) ⟨hx, hb, hml, hown, hts⟩ (c_X0_mark l D h0 hn hd hq cZ cD cI nb v ln go mv hln hl0 s.heap.size g k x hg hk hlv) (cwV 3 hts gL_mark_X0_mark rfl rfl rfl (by decide +kernel) ⟨Nat.le_of_ble_eq_true rfl, Nat.le_of_ble_eq_true rfl⟩) ⟨fun a U g mk q => ⟨q.1, xOK_call q.2.1 g mk a, q.2.2.1, q.2.2.2.1, va_K.moved (u := U) (U := U.calling g mk a) (Vm.Alike.refl U.vm) q.2.2.2.2.1, q.2.2.2.2.2⟩, va_recv hKc hPc (ci := 1) (q0 := 0) rfl rfl, fun U hU hW => ⟨rfl, xOK_at hX hU hW, by rw [hU], by rw [hU]; exact hPc, va_K.moved hW.alike hKc, hDc.weaken (fun _ _ _ _ => trivial)⟩⟩ rfl rfl hl.1 rfl (lv_room (Nat.le_of_ble_eq_true rfl)) dL_mark_7 ⟨Nat.le_of_ble_eq_true rfl, Nat.le_of_ble_eq_true rfl⟩) hS hFc (fun r_1 H locs hr_1 hP1 hz1 hk1 hS => ?_)
  subst hr_1
  obtain ⟨hP, -⟩ := va_join (wr := [(qo, .inl (cJ, 1, .inr (.inl oL)))]) (w1 := WB h0 hn hd hq cZ cD cI (up nb (144 + g * 3 + k) true) (up v (144 + g * 3 + k) x) ln go mv) hP hD [0, 1, 2, 3] [4] rfl rfl (by decide) (by decide) hk1 hFc hP1 (va_D_same (ws := WB h0 hn hd hq cZ cD cI nb v ln go mv) rfl (hDc.self (sz := s.heap.size)))
  have hP : va_P D vwCl [(h0, .inr (1, [.ref hn, .ref hd, .ref hq, .int (b2i go), .int mv])), (hn, .inl (cZ, 165, .inl (fun j => b2i (((up nb (144 + g * 3 + k) true)) j)))), (hd, .inl (cD, 165, .inr (.inr (.inr (.inl ((up v (144 + g * 3 + k) x))))))), (hq, .inl (cI, 12, .inl (fun j => nI (ln j)))), (qo, .inl (cJ, 1, .inr (.inl oL)))] H := hP.sub [1, 2, 3, 4, 0] rfl
  have hD : va_D A [(h0, .inr (1, [.ref hn, .ref hd, .ref hq, .int (b2i go), .int mv])), (hn, .inl (cZ, 165, .inl (fun j => b2i (((up nb (144 + g * 3 + k) true)) j)))), (hd, .inl (cD, 165, .inr (.inr (.inr (.inl ((up v (144 + g * 3 + k) x))))))), (hq, .inl (cI, 12, .inl (fun j => nI (ln j)))), (qo, .inl (cJ, 1, .inr (.inl oL)))] := va_D_same (ws := [(h0, .inr (1, [.ref hn, .ref hd, .ref hq, .int (b2i go), .int mv])), (hn, .inl (cZ, 165, .inl (fun j => b2i (nb j)))), (hd, .inl (cD, 165, .inr (.inr (.inr (.inl v))))), (hq, .inl (cI, 12, .inl (fun j => nI (ln j)))), (qo, .inl (cJ, 1, .inr (.inl oL)))]) rfl hD
  refine kb_eq (tgt := 17) hx hb dL_mark_10 (by decide) (fun c_1 => ?_) (fun c_1 => ?_)
  · refine lv_lconst (v := 0) hx hb dL_mark_17 (by decide) ?_
    refine kn_last hx hb hK hP hD hS 4 3 rfl rfl (by omega) (by decide) dL_mark_18 (fun H locs hP hD hS => ?_)
    have hP : va_P D vwCl ([(h0, .inr (1, [.ref hn, .ref hd, .ref hq, .int (b2i go), .int mv])), (hn, .inl (cZ, 165, .inl (fun j => b2i (((up nb (144 + g * 3 + k) true)) j)))), (hd, .inl (cD, 165, .inr (.inr (.inr (.inl ((up v (144 + g * 3 + k) x))))))), (hq, .inl (cI, 12, .inl (fun j => nI (ln j)))), (qo, .inl (cJ, 1, .inr (.inl (up oL 0 0))))]) H := hP
    have hD : va_D A ([(h0, .inr (1, [.ref hn, .ref hd, .ref hq, .int (b2i go), .int mv])), (hn, .inl (cZ, 165, .inl (fun j => b2i (((up nb (144 + g * 3 + k) true)) j)))), (hd, .inl (cD, 165, .inr (.inr (.inr (.inl ((up v (144 + g * 3 + k) x))))))), (hq, .inl (cI, 12, .inl (fun j => nI (ln j)))), (qo, .inl (cJ, 1, .inr (.inl (up oL 0 0))))]) := hD
    refine lv_goto (tgt := 26) hx hb dL_mark_19 (by decide) ?_
    refine lv_iconst (v := nI 0) hx hb dL_mark_26 (by decide) ?_
    refine vx_ret ?_
    refine W.widen (k := 2) (n := 12) (Nat.le_of_ble_eq_true rfl) (Nat.le_of_ble_eq_true rfl) ?_
    exact W.iret (v := nI 0) hx hb hr (fun t9 ht9 hW9 => ⟨⟨_, rfl, rfl, by rw [ht9, show b2l (nb (144 + g * 3 + k)) = 0 from by rw [c_1]; rfl]; exact hP⟩, hS.F ht9⟩) hS.2.2 dL_mark_27
  · refine lv_lconst (v := 1) hx hb dL_mark_13 (by decide) ?_
    refine lv_goto (tgt := 18) hx hb dL_mark_14 (by decide) ?_
    refine kn_last hx hb hK hP hD hS 4 3 rfl rfl (by omega) (by decide) dL_mark_18 (fun H locs hP hD hS => ?_)
    have hP : va_P D vwCl ([(h0, .inr (1, [.ref hn, .ref hd, .ref hq, .int (b2i go), .int mv])), (hn, .inl (cZ, 165, .inl (fun j => b2i (((up nb (144 + g * 3 + k) true)) j)))), (hd, .inl (cD, 165, .inr (.inr (.inr (.inl ((up v (144 + g * 3 + k) x))))))), (hq, .inl (cI, 12, .inl (fun j => nI (ln j)))), (qo, .inl (cJ, 1, .inr (.inl (up oL 0 1))))]) H := hP
    have hD : va_D A ([(h0, .inr (1, [.ref hn, .ref hd, .ref hq, .int (b2i go), .int mv])), (hn, .inl (cZ, 165, .inl (fun j => b2i (((up nb (144 + g * 3 + k) true)) j)))), (hd, .inl (cD, 165, .inr (.inr (.inr (.inl ((up v (144 + g * 3 + k) x))))))), (hq, .inl (cI, 12, .inl (fun j => nI (ln j)))), (qo, .inl (cJ, 1, .inr (.inl (up oL 0 1))))]) := hD
    refine lv_goto (tgt := 26) hx hb dL_mark_19 (by decide) ?_
    refine lv_iconst (v := nI 0) hx hb dL_mark_26 (by decide) ?_
    refine vx_ret ?_
    refine W.widen (k := 2) (n := 12) (Nat.le_of_ble_eq_true rfl) (Nat.le_of_ble_eq_true rfl) ?_
    exact W.iret (v := nI 0) hx hb hr (fun t9 ht9 hW9 => ⟨⟨_, rfl, rfl, by rw [ht9, show b2l (nb (144 + g * 3 + k)) = 1 from by rw [c_1]; rfl]; exact hP⟩, hS.F ht9⟩) hS.2.2 dL_mark_27
set_option maxHeartbeats 4000000 in
set_option maxRecDepth 100000 in
theorem w_mark_bad (l : Launch) (D : va_G) (h0 hn hd hq qo : Nat) (cZ cD cI cJ : ClassId) (nb : Nat → Bool) (v : Nat → UInt64) (ln : Nat → Nat) (go : Bool) (mv : Int32) (oL : Nat → Int64) (hln : ∀ j, ln j ≤ 12) (hl0 : l.stackTraces = false) (zz : Nat) (x0 : Int32) (x1 : Int32) (y : UInt64) (hbad : ¬ (InN 6 x0 ∧ InN 2 x1 ∧ lvl y = true)) : Met l yL_mark wsL_mark ({ frames := 8, cells := 2, slots := 12, locals := 127 }) (va_Pc [.ref h0, .int x0, .int x1, .double y, .ref qo] (fun U => xOK U ∧ xN U ∧ U.heap.size = zz ∧ va_P D vwCl [(h0, .inr (1, [.ref hn, .ref hd, .ref hq, .int (b2i go), .int mv])), (hn, .inl (cZ, 165, .inl (fun j => b2i (nb j)))), (hd, .inl (cD, 165, .inr (.inr (.inr (.inl v))))), (hq, .inl (cI, 12, .inl (fun j => nI (ln j)))), (qo, .inl (cJ, 1, .inr (.inl oL)))] U.heap ∧ va_K D vwCl (TYL cZ cD cI cJ) U ∧ va_D (fun _ => True) [(h0, .inr (1, [.ref hn, .ref hd, .ref hq, .int (b2i go), .int mv])), (hn, .inl (cZ, 165, .inl (fun j => b2i (nb j)))), (hd, .inl (cD, 165, .inr (.inr (.inr (.inl v))))), (hq, .inl (cI, 12, .inl (fun j => nI (ln j)))), (qo, .inl (cJ, 1, .inr (.inl oL)))])) (wr_Qi (fun r => r = nI 1) (fun H => va_P D vwCl [(h0, .inr (1, [.ref hn, .ref hd, .ref hq, .int (b2i go), .int mv])), (hn, .inl (cZ, 165, .inl (fun j => b2i (nb j)))), (hd, .inl (cD, 165, .inr (.inr (.inr (.inl v))))), (hq, .inl (cI, 12, .inl (fun j => nI (ln j)))), (qo, .inl (cJ, 1, .inr (.inl oL)))] H) (va_A [(h0, .inr (1, [.ref hn, .ref hd, .ref hq, .int (b2i go), .int mv])), (hn, .inl (cZ, 165, .inl (fun j => b2i (nb j)))), (hd, .inl (cD, 165, .inr (.inr (.inr (.inl v))))), (hq, .inl (cI, 12, .inl (fun j => nI (ln j)))), (qo, .inl (cJ, 1, .inr (.inl oL)))] zz)) 2 12 (va_A [(h0, .inr (1, [.ref hn, .ref hd, .ref hq, .int (b2i go), .int mv])), (hn, .inl (cZ, 165, .inl (fun j => b2i (nb j)))), (hd, .inl (cD, 165, .inr (.inr (.inr (.inl v))))), (hq, .inl (cI, 12, .inl (fun j => nI (ln j)))), (qo, .inl (cJ, 1, .inr (.inl oL)))] zz) := by
  refine met_of_vx (vx_ofWH (cc := cL_mark) (maxL := 7) (ret := some .int) (hh := [(0, 19, 22, 13)]) (by decide) rfl ?_)
  intro p e s m args below meth c s₁ B hml hv
  obtain ⟨rfl, hX, hN, hsz_, hP, hK, hD0⟩ := hv
  have hx := B.exec
  have hb := B.bytes
  have hr := B.returns
  have hts := atoms_spec (ws := wsL_mark) B.pre
  have hown : s.vm.findClass RL = some m.cls := findClass_of_methodNamed B.named
  have hlocks := B.notSynchronized
  have htab := vx_table (x := yL_mark) (hh := [(0, 19, 22, 13)]) B (hts _ List.mem_cons_self)
  subst hsz_
  have hD := hD0.self (sz := s.heap.size)
  generalize hAe : va_A [(h0, .inr (1, [.ref hn, .ref hd, .ref hq, .int (b2i go), .int mv])), (hn, .inl (cZ, 165, .inl (fun j => b2i (nb j)))), (hd, .inl (cD, 165, .inr (.inr (.inr (.inl v))))), (hq, .inl (cI, 12, .inl (fun j => nI (ln j)))), (qo, .inl (cJ, 1, .inr (.inl oL)))] s.heap.size = A at hD ⊢
  have hA : ∀ q : Nat, s.heap.size ≤ q → A q := fun q h => by rw [← hAe]; exact Or.inr h
  have hS : va_S A s.heap s.heap [] := va_S.rf
  have hl := lv_entry ([.ref h0, .int x0, .int x1, .double y, .ref qo]) (n := 7) (Nat.le_of_ble_eq_true rfl)
  rw [lg_entry_eq]
  generalize (lg_sl ([.ref h0, .int x0, .int x1, .double y, .ref qo]) ++ List.replicate (7 - (lg_sl ([.ref h0, .int x0, .int x1, .double y, .ref qo])).length) Slot.unset).toArray = ls at hl ⊢
  have hl : lv_has ls 7 [(0, .ref h0), (1, .int x0), (2, .int x1), (3, .double y), (5, .ref qo)] := hl
  refine lv_aload hx hb dL_mark_0 (lv_at hl 4 rfl) ?_
  refine lv_iconst (v := nI 0) hx hb dL_mark_2 (by decide) ?_
  refine lv_aload_n hx hb dL_mark_3 rfl (lv_at hl 0 rfl) ?_
  refine lv_iload_n hx hb dL_mark_4 rfl (lv_at hl 1 rfl) ?_
  refine lv_iload_n hx hb dL_mark_5 rfl (lv_at hl 2 rfl) ?_
  refine lv_dload_n hx hb dL_mark_6 rfl (lv_at hl 3 rfl) ?_
  have hPc : va_P D vwCl (WB h0 hn hd hq cZ cD cI nb v ln go mv) s.heap := hP.sub [0, 1, 2, 3] rfl
  have hDc : va_D A (WB h0 hn hd hq cZ cD cI nb v ln go mv) := hD.sub [0, 1, 2, 3] (by decide) rfl
  have hKc : va_K D vwCl (TY cZ cD cI) s := hK.sub [0, 1, 2] rfl
  refine kv_never (vx_runV (As := [.int x0, .int x1, .double y]) (rest := [.int (nI 0), .ref qo]) ⟨hx, hb, hml, hown, hts⟩ (c_X0_mark_bad l D h0 hn hd hq cZ cD cI nb v ln go mv hln hl0 x0 x1 y hbad) (cwV 3 hts gL_mark_X0_mark rfl rfl rfl (by decide +kernel) ⟨Nat.le_of_ble_eq_true rfl, Nat.le_of_ble_eq_true rfl⟩) ⟨fun a U g mk q => ⟨q.1, xOK_call q.2.1 g mk a, q.2.2.1, va_K.moved (u := U) (U := U.calling g mk a) (Vm.Alike.refl U.vm) q.2.2.2⟩, va_recv hKc hPc (ci := 1) (q0 := 0) rfl rfl, fun U hU hW => ⟨rfl, xOK_at hX hU hW, by rw [hU]; exact hPc, va_K.moved hW.alike hKc⟩⟩ rfl rfl hl.1 rfl (lv_room (Nat.le_of_ble_eq_true rfl)) dL_mark_7 ⟨Nat.le_of_ble_eq_true rfl, Nat.le_of_ble_eq_true rfl⟩) (fun E9 ce q9 H hE h1 h2 h3 h4 h5 => ?_)
  subst hE
  have hP : va_P D vwCl [(h0, .inr (1, [.ref hn, .ref hd, .ref hq, .int (b2i go), .int mv])), (hn, .inl (cZ, 165, .inl (fun j => b2i (nb j)))), (hd, .inl (cD, 165, .inr (.inr (.inr (.inl v))))), (hq, .inl (cI, 12, .inl (fun j => nI (ln j)))), (qo, .inl (cJ, 1, .inr (.inl oL)))] H := hP.kept (fun k q hk => h2 q.1 (vx_lt hP hk))
  have hS : va_S A s.heap H [] := ⟨h1, fun q hq _ => h2 q hq, fun q hq => absurd hq List.not_mem_nil⟩
  refine vx_catch (E := IAE) (name := IAE) hown [] ⟨0, 19, 22, 13⟩ [] htab (fun z hz => absurd hz List.not_mem_nil) (by decide) (by decide) (hts (.classLink RL 13 IAE) (by decide +kernel)) (xC.word hX.2.2.2.1) h3 h4 h5 ?_
  show W p l e _ s m _ below meth c H [] _ _ _ (F0 m 22 ls [.ref q9])
  refine lv_astore (lv' := [(6, .ref q9), (0, .ref h0), (1, .int x0), (2, .int x1), (3, .double y), (5, .ref qo)]) hx hb dL_mark_22 hl (by decide) rfl (fun ls hl => ?_)
  refine lv_iconst (v := nI 1) hx hb dL_mark_24 (by decide) ?_
  refine vx_ret ?_
  refine W.widen (k := 2) (n := 12) (Nat.le_of_ble_eq_true rfl) (Nat.le_of_ble_eq_true rfl) ?_
  exact W.iret (v := nI 1) hx hb hr (fun t9 ht9 hW9 => ⟨⟨_, rfl, rfl, by rw [ht9]; exact hP⟩, hS.F ht9⟩) hS.2.2 dL_mark_25
set_option maxHeartbeats 4000000 in
set_option maxRecDepth 100000 in
theorem w_gale (l : Launch) (D : va_G) (h0 hn hd hq qo : Nat) (cZ cD cI cJ : ClassId) (nb : Nat → Bool) (v : Nat → UInt64) (ln : Nat → Nat) (go : Bool) (mv : Int32) (oL : Nat → Int64) (hln : ∀ j, ln j ≤ 12) (hl0 : l.stackTraces = false) (zz : Nat) (g : Nat) (x : UInt32) (hg : g < 6) (hlv : wnd x = true) : Met l yL_gale wsL_gale ({ frames := 8, cells := 2, slots := 12, locals := 124 }) (va_Pc [.ref h0, .int (nI g), .float x, .ref qo] (fun U => xOK U ∧ xN U ∧ U.heap.size = zz ∧ va_P D vwCl [(h0, .inr (1, [.ref hn, .ref hd, .ref hq, .int (b2i go), .int mv])), (hn, .inl (cZ, 165, .inl (fun j => b2i (nb j)))), (hd, .inl (cD, 165, .inr (.inr (.inr (.inl v))))), (hq, .inl (cI, 12, .inl (fun j => nI (ln j)))), (qo, .inl (cJ, 1, .inr (.inl oL)))] U.heap ∧ va_K D vwCl (TYL cZ cD cI cJ) U ∧ va_D (fun _ => True) [(h0, .inr (1, [.ref hn, .ref hd, .ref hq, .int (b2i go), .int mv])), (hn, .inl (cZ, 165, .inl (fun j => b2i (nb j)))), (hd, .inl (cD, 165, .inr (.inr (.inr (.inl v))))), (hq, .inl (cI, 12, .inl (fun j => nI (ln j)))), (qo, .inl (cJ, 1, .inr (.inl oL)))])) (wr_Qi (fun r => r = nI 0) (fun H => va_P D vwCl [(h0, .inr (1, [.ref hn, .ref hd, .ref hq, .int (b2i go), .int mv])), (hn, .inl (cZ, 165, .inl (fun j => b2i (((up nb (144 + g * 3 + 2) true)) j)))), (hd, .inl (cD, 165, .inr (.inr (.inr (.inl ((up v (144 + g * 3 + 2) (FP.f2d x)))))))), (hq, .inl (cI, 12, .inl (fun j => nI (ln j)))), (qo, .inl (cJ, 1, .inr (.inl (up oL 0 (b2l (nb (144 + g * 3 + 2)))))))] H) (va_A [(h0, .inr (1, [.ref hn, .ref hd, .ref hq, .int (b2i go), .int mv])), (hn, .inl (cZ, 165, .inl (fun j => b2i (nb j)))), (hd, .inl (cD, 165, .inr (.inr (.inr (.inl v))))), (hq, .inl (cI, 12, .inl (fun j => nI (ln j)))), (qo, .inl (cJ, 1, .inr (.inl oL)))] zz)) 2 12 (va_A [(h0, .inr (1, [.ref hn, .ref hd, .ref hq, .int (b2i go), .int mv])), (hn, .inl (cZ, 165, .inl (fun j => b2i (nb j)))), (hd, .inl (cD, 165, .inr (.inr (.inr (.inl v))))), (hq, .inl (cI, 12, .inl (fun j => nI (ln j)))), (qo, .inl (cJ, 1, .inr (.inl oL)))] zz) := by
  refine met_of_vx (vx_ofWH (cc := cL_gale) (maxL := 5) (ret := some .int) (hh := [(0, 17, 20, 13)]) (by decide) rfl ?_)
  intro p e s m args below meth c s₁ B hml hv
  obtain ⟨rfl, hX, hN, hsz_, hP, hK, hD0⟩ := hv
  have hx := B.exec
  have hb := B.bytes
  have hr := B.returns
  have hts := atoms_spec (ws := wsL_gale) B.pre
  have hown : s.vm.findClass RL = some m.cls := findClass_of_methodNamed B.named
  have hlocks := B.notSynchronized
  have htab := vx_table (x := yL_gale) (hh := [(0, 17, 20, 13)]) B (hts _ List.mem_cons_self)
  subst hsz_
  have hD := hD0.self (sz := s.heap.size)
  generalize hAe : va_A [(h0, .inr (1, [.ref hn, .ref hd, .ref hq, .int (b2i go), .int mv])), (hn, .inl (cZ, 165, .inl (fun j => b2i (nb j)))), (hd, .inl (cD, 165, .inr (.inr (.inr (.inl v))))), (hq, .inl (cI, 12, .inl (fun j => nI (ln j)))), (qo, .inl (cJ, 1, .inr (.inl oL)))] s.heap.size = A at hD ⊢
  have hA : ∀ q : Nat, s.heap.size ≤ q → A q := fun q h => by rw [← hAe]; exact Or.inr h
  have hS : va_S A s.heap s.heap [] := va_S.rf
  have hl := lv_entry ([.ref h0, .int (nI g), .float x, .ref qo]) (n := 5) (Nat.le_of_ble_eq_true rfl)
  rw [lg_entry_eq]
  generalize (lg_sl ([.ref h0, .int (nI g), .float x, .ref qo]) ++ List.replicate (5 - (lg_sl ([.ref h0, .int (nI g), .float x, .ref qo])).length) Slot.unset).toArray = ls at hl ⊢
  have hl : lv_has ls 5 [(0, .ref h0), (1, .int (nI g)), (2, .float x), (3, .ref qo)] := hl
  refine lv_aload_n hx hb dL_gale_0 rfl (lv_at hl 3 rfl) ?_
  refine lv_iconst (v := nI 0) hx hb dL_gale_1 (by decide) ?_
  refine lv_aload_n hx hb dL_gale_2 rfl (lv_at hl 0 rfl) ?_
  refine lv_iload_n hx hb dL_gale_3 rfl (lv_at hl 1 rfl) ?_
  refine lv_fload_n hx hb dL_gale_4 rfl (lv_at hl 2 rfl) ?_
  have hPc : va_P D vwCl (WB h0 hn hd hq cZ cD cI nb v ln go mv) s.heap := hP.sub [0, 1, 2, 3] rfl
  have hDc : va_D A (WB h0 hn hd hq cZ cD cI nb v ln go mv) := hD.sub [0, 1, 2, 3] (by decide) rfl
  have hKc : va_K D vwCl (TY cZ cD cI) s := hK.sub [0, 1, 2] rfl
  have hFc := va_free (wc := WB h0 hn hd hq cZ cD cI nb v ln go mv) hD hS hA [0, 1, 2, 3] rfl
  refine wr_calli (va_runV (As := [.int (nI g), .float x]) (rest := [.int (nI 0), .ref qo]) ⟨hx, hb, hml, hown, hts⟩ (c_X0_gale l D h0 hn hd hq cZ cD cI nb v ln go mv hln hl0 s.heap.size g x hg hlv) (cwV 2 hts gL_gale_X0_gale rfl rfl rfl (by decide +kernel) ⟨Nat.le_of_ble_eq_true rfl, Nat.le_of_ble_eq_true rfl⟩) ⟨fun a U g mk q => ⟨q.1, xOK_call q.2.1 g mk a, q.2.2.1, q.2.2.2.1, va_K.moved (u := U) (U := U.calling g mk a) (Vm.Alike.refl U.vm) q.2.2.2.2.1, q.2.2.2.2.2⟩, va_recv hKc hPc (ci := 1) (q0 := 0) rfl rfl, fun U hU hW => ⟨rfl, xOK_at hX hU hW, by rw [hU], by rw [hU]; exact hPc, va_K.moved hW.alike hKc, hDc.weaken (fun _ _ _ _ => trivial)⟩⟩ rfl rfl hl.1 rfl (lv_room (Nat.le_of_ble_eq_true rfl)) dL_gale_5 ⟨Nat.le_of_ble_eq_true rfl, Nat.le_of_ble_eq_true rfl⟩) hS hFc (fun r_1 H locs hr_1 hP1 hz1 hk1 hS => ?_)
  subst hr_1
  obtain ⟨hP, -⟩ := va_join (wr := [(qo, .inl (cJ, 1, .inr (.inl oL)))]) (w1 := WB h0 hn hd hq cZ cD cI (up nb (144 + g * 3 + 2) true) (up v (144 + g * 3 + 2) (FP.f2d x)) ln go mv) hP hD [0, 1, 2, 3] [4] rfl rfl (by decide) (by decide) hk1 hFc hP1 (va_D_same (ws := WB h0 hn hd hq cZ cD cI nb v ln go mv) rfl (hDc.self (sz := s.heap.size)))
  have hP : va_P D vwCl [(h0, .inr (1, [.ref hn, .ref hd, .ref hq, .int (b2i go), .int mv])), (hn, .inl (cZ, 165, .inl (fun j => b2i (((up nb (144 + g * 3 + 2) true)) j)))), (hd, .inl (cD, 165, .inr (.inr (.inr (.inl ((up v (144 + g * 3 + 2) (FP.f2d x)))))))), (hq, .inl (cI, 12, .inl (fun j => nI (ln j)))), (qo, .inl (cJ, 1, .inr (.inl oL)))] H := hP.sub [1, 2, 3, 4, 0] rfl
  have hD : va_D A [(h0, .inr (1, [.ref hn, .ref hd, .ref hq, .int (b2i go), .int mv])), (hn, .inl (cZ, 165, .inl (fun j => b2i (((up nb (144 + g * 3 + 2) true)) j)))), (hd, .inl (cD, 165, .inr (.inr (.inr (.inl ((up v (144 + g * 3 + 2) (FP.f2d x)))))))), (hq, .inl (cI, 12, .inl (fun j => nI (ln j)))), (qo, .inl (cJ, 1, .inr (.inl oL)))] := va_D_same (ws := [(h0, .inr (1, [.ref hn, .ref hd, .ref hq, .int (b2i go), .int mv])), (hn, .inl (cZ, 165, .inl (fun j => b2i (nb j)))), (hd, .inl (cD, 165, .inr (.inr (.inr (.inl v))))), (hq, .inl (cI, 12, .inl (fun j => nI (ln j)))), (qo, .inl (cJ, 1, .inr (.inl oL)))]) rfl hD
  refine kb_eq (tgt := 15) hx hb dL_gale_8 (by decide) (fun c_1 => ?_) (fun c_1 => ?_)
  · refine lv_lconst (v := 0) hx hb dL_gale_15 (by decide) ?_
    refine kn_last hx hb hK hP hD hS 4 3 rfl rfl (by omega) (by decide) dL_gale_16 (fun H locs hP hD hS => ?_)
    have hP : va_P D vwCl ([(h0, .inr (1, [.ref hn, .ref hd, .ref hq, .int (b2i go), .int mv])), (hn, .inl (cZ, 165, .inl (fun j => b2i (((up nb (144 + g * 3 + 2) true)) j)))), (hd, .inl (cD, 165, .inr (.inr (.inr (.inl ((up v (144 + g * 3 + 2) (FP.f2d x)))))))), (hq, .inl (cI, 12, .inl (fun j => nI (ln j)))), (qo, .inl (cJ, 1, .inr (.inl (up oL 0 0))))]) H := hP
    have hD : va_D A ([(h0, .inr (1, [.ref hn, .ref hd, .ref hq, .int (b2i go), .int mv])), (hn, .inl (cZ, 165, .inl (fun j => b2i (((up nb (144 + g * 3 + 2) true)) j)))), (hd, .inl (cD, 165, .inr (.inr (.inr (.inl ((up v (144 + g * 3 + 2) (FP.f2d x)))))))), (hq, .inl (cI, 12, .inl (fun j => nI (ln j)))), (qo, .inl (cJ, 1, .inr (.inl (up oL 0 0))))]) := hD
    refine lv_goto (tgt := 24) hx hb dL_gale_17 (by decide) ?_
    refine lv_iconst (v := nI 0) hx hb dL_gale_24 (by decide) ?_
    refine vx_ret ?_
    refine W.widen (k := 2) (n := 12) (Nat.le_of_ble_eq_true rfl) (Nat.le_of_ble_eq_true rfl) ?_
    exact W.iret (v := nI 0) hx hb hr (fun t9 ht9 hW9 => ⟨⟨_, rfl, rfl, by rw [ht9, show b2l (nb (144 + g * 3 + 2)) = 0 from by rw [c_1]; rfl]; exact hP⟩, hS.F ht9⟩) hS.2.2 dL_gale_25
  · refine lv_lconst (v := 1) hx hb dL_gale_11 (by decide) ?_
    refine lv_goto (tgt := 16) hx hb dL_gale_12 (by decide) ?_
    refine kn_last hx hb hK hP hD hS 4 3 rfl rfl (by omega) (by decide) dL_gale_16 (fun H locs hP hD hS => ?_)
    have hP : va_P D vwCl ([(h0, .inr (1, [.ref hn, .ref hd, .ref hq, .int (b2i go), .int mv])), (hn, .inl (cZ, 165, .inl (fun j => b2i (((up nb (144 + g * 3 + 2) true)) j)))), (hd, .inl (cD, 165, .inr (.inr (.inr (.inl ((up v (144 + g * 3 + 2) (FP.f2d x)))))))), (hq, .inl (cI, 12, .inl (fun j => nI (ln j)))), (qo, .inl (cJ, 1, .inr (.inl (up oL 0 1))))]) H := hP
    have hD : va_D A ([(h0, .inr (1, [.ref hn, .ref hd, .ref hq, .int (b2i go), .int mv])), (hn, .inl (cZ, 165, .inl (fun j => b2i (((up nb (144 + g * 3 + 2) true)) j)))), (hd, .inl (cD, 165, .inr (.inr (.inr (.inl ((up v (144 + g * 3 + 2) (FP.f2d x)))))))), (hq, .inl (cI, 12, .inl (fun j => nI (ln j)))), (qo, .inl (cJ, 1, .inr (.inl (up oL 0 1))))]) := hD
    refine lv_goto (tgt := 24) hx hb dL_gale_17 (by decide) ?_
    refine lv_iconst (v := nI 0) hx hb dL_gale_24 (by decide) ?_
    refine vx_ret ?_
    refine W.widen (k := 2) (n := 12) (Nat.le_of_ble_eq_true rfl) (Nat.le_of_ble_eq_true rfl) ?_
    exact W.iret (v := nI 0) hx hb hr (fun t9 ht9 hW9 => ⟨⟨_, rfl, rfl, by rw [ht9, show b2l (nb (144 + g * 3 + 2)) = 1 from by rw [c_1]; rfl]; exact hP⟩, hS.F ht9⟩) hS.2.2 dL_gale_25
set_option maxHeartbeats 4000000 in
set_option maxRecDepth 100000 in
theorem w_gale_bad (l : Launch) (D : va_G) (h0 hn hd hq qo : Nat) (cZ cD cI cJ : ClassId) (nb : Nat → Bool) (v : Nat → UInt64) (ln : Nat → Nat) (go : Bool) (mv : Int32) (oL : Nat → Int64) (hln : ∀ j, ln j ≤ 12) (hl0 : l.stackTraces = false) (zz : Nat) (x0 : Int32) (y : UInt32) (hbad : ¬ (InN 6 x0 ∧ wnd y = true)) : Met l yL_gale wsL_gale ({ frames := 8, cells := 2, slots := 12, locals := 124 }) (va_Pc [.ref h0, .int x0, .float y, .ref qo] (fun U => xOK U ∧ xN U ∧ U.heap.size = zz ∧ va_P D vwCl [(h0, .inr (1, [.ref hn, .ref hd, .ref hq, .int (b2i go), .int mv])), (hn, .inl (cZ, 165, .inl (fun j => b2i (nb j)))), (hd, .inl (cD, 165, .inr (.inr (.inr (.inl v))))), (hq, .inl (cI, 12, .inl (fun j => nI (ln j)))), (qo, .inl (cJ, 1, .inr (.inl oL)))] U.heap ∧ va_K D vwCl (TYL cZ cD cI cJ) U ∧ va_D (fun _ => True) [(h0, .inr (1, [.ref hn, .ref hd, .ref hq, .int (b2i go), .int mv])), (hn, .inl (cZ, 165, .inl (fun j => b2i (nb j)))), (hd, .inl (cD, 165, .inr (.inr (.inr (.inl v))))), (hq, .inl (cI, 12, .inl (fun j => nI (ln j)))), (qo, .inl (cJ, 1, .inr (.inl oL)))])) (wr_Qi (fun r => r = nI 1) (fun H => va_P D vwCl [(h0, .inr (1, [.ref hn, .ref hd, .ref hq, .int (b2i go), .int mv])), (hn, .inl (cZ, 165, .inl (fun j => b2i (nb j)))), (hd, .inl (cD, 165, .inr (.inr (.inr (.inl v))))), (hq, .inl (cI, 12, .inl (fun j => nI (ln j)))), (qo, .inl (cJ, 1, .inr (.inl oL)))] H) (va_A [(h0, .inr (1, [.ref hn, .ref hd, .ref hq, .int (b2i go), .int mv])), (hn, .inl (cZ, 165, .inl (fun j => b2i (nb j)))), (hd, .inl (cD, 165, .inr (.inr (.inr (.inl v))))), (hq, .inl (cI, 12, .inl (fun j => nI (ln j)))), (qo, .inl (cJ, 1, .inr (.inl oL)))] zz)) 2 12 (va_A [(h0, .inr (1, [.ref hn, .ref hd, .ref hq, .int (b2i go), .int mv])), (hn, .inl (cZ, 165, .inl (fun j => b2i (nb j)))), (hd, .inl (cD, 165, .inr (.inr (.inr (.inl v))))), (hq, .inl (cI, 12, .inl (fun j => nI (ln j)))), (qo, .inl (cJ, 1, .inr (.inl oL)))] zz) := by
  refine met_of_vx (vx_ofWH (cc := cL_gale) (maxL := 5) (ret := some .int) (hh := [(0, 17, 20, 13)]) (by decide) rfl ?_)
  intro p e s m args below meth c s₁ B hml hv
  obtain ⟨rfl, hX, hN, hsz_, hP, hK, hD0⟩ := hv
  have hx := B.exec
  have hb := B.bytes
  have hr := B.returns
  have hts := atoms_spec (ws := wsL_gale) B.pre
  have hown : s.vm.findClass RL = some m.cls := findClass_of_methodNamed B.named
  have hlocks := B.notSynchronized
  have htab := vx_table (x := yL_gale) (hh := [(0, 17, 20, 13)]) B (hts _ List.mem_cons_self)
  subst hsz_
  have hD := hD0.self (sz := s.heap.size)
  generalize hAe : va_A [(h0, .inr (1, [.ref hn, .ref hd, .ref hq, .int (b2i go), .int mv])), (hn, .inl (cZ, 165, .inl (fun j => b2i (nb j)))), (hd, .inl (cD, 165, .inr (.inr (.inr (.inl v))))), (hq, .inl (cI, 12, .inl (fun j => nI (ln j)))), (qo, .inl (cJ, 1, .inr (.inl oL)))] s.heap.size = A at hD ⊢
  have hA : ∀ q : Nat, s.heap.size ≤ q → A q := fun q h => by rw [← hAe]; exact Or.inr h
  have hS : va_S A s.heap s.heap [] := va_S.rf
  have hl := lv_entry ([.ref h0, .int x0, .float y, .ref qo]) (n := 5) (Nat.le_of_ble_eq_true rfl)
  rw [lg_entry_eq]
  generalize (lg_sl ([.ref h0, .int x0, .float y, .ref qo]) ++ List.replicate (5 - (lg_sl ([.ref h0, .int x0, .float y, .ref qo])).length) Slot.unset).toArray = ls at hl ⊢
  have hl : lv_has ls 5 [(0, .ref h0), (1, .int x0), (2, .float y), (3, .ref qo)] := hl
  refine lv_aload_n hx hb dL_gale_0 rfl (lv_at hl 3 rfl) ?_
  refine lv_iconst (v := nI 0) hx hb dL_gale_1 (by decide) ?_
  refine lv_aload_n hx hb dL_gale_2 rfl (lv_at hl 0 rfl) ?_
  refine lv_iload_n hx hb dL_gale_3 rfl (lv_at hl 1 rfl) ?_
  refine lv_fload_n hx hb dL_gale_4 rfl (lv_at hl 2 rfl) ?_
  have hPc : va_P D vwCl (WB h0 hn hd hq cZ cD cI nb v ln go mv) s.heap := hP.sub [0, 1, 2, 3] rfl
  have hDc : va_D A (WB h0 hn hd hq cZ cD cI nb v ln go mv) := hD.sub [0, 1, 2, 3] (by decide) rfl
  have hKc : va_K D vwCl (TY cZ cD cI) s := hK.sub [0, 1, 2] rfl
  refine kv_never (vx_runV (As := [.int x0, .float y]) (rest := [.int (nI 0), .ref qo]) ⟨hx, hb, hml, hown, hts⟩ (c_X0_gale_bad l D h0 hn hd hq cZ cD cI nb v ln go mv hln hl0 x0 y hbad) (cwV 2 hts gL_gale_X0_gale rfl rfl rfl (by decide +kernel) ⟨Nat.le_of_ble_eq_true rfl, Nat.le_of_ble_eq_true rfl⟩) ⟨fun a U g mk q => ⟨q.1, xOK_call q.2.1 g mk a, q.2.2.1, va_K.moved (u := U) (U := U.calling g mk a) (Vm.Alike.refl U.vm) q.2.2.2⟩, va_recv hKc hPc (ci := 1) (q0 := 0) rfl rfl, fun U hU hW => ⟨rfl, xOK_at hX hU hW, by rw [hU]; exact hPc, va_K.moved hW.alike hKc⟩⟩ rfl rfl hl.1 rfl (lv_room (Nat.le_of_ble_eq_true rfl)) dL_gale_5 ⟨Nat.le_of_ble_eq_true rfl, Nat.le_of_ble_eq_true rfl⟩) (fun E9 ce q9 H hE h1 h2 h3 h4 h5 => ?_)
  subst hE
  have hP : va_P D vwCl [(h0, .inr (1, [.ref hn, .ref hd, .ref hq, .int (b2i go), .int mv])), (hn, .inl (cZ, 165, .inl (fun j => b2i (nb j)))), (hd, .inl (cD, 165, .inr (.inr (.inr (.inl v))))), (hq, .inl (cI, 12, .inl (fun j => nI (ln j)))), (qo, .inl (cJ, 1, .inr (.inl oL)))] H := hP.kept (fun k q hk => h2 q.1 (vx_lt hP hk))
  have hS : va_S A s.heap H [] := ⟨h1, fun q hq _ => h2 q hq, fun q hq => absurd hq List.not_mem_nil⟩
  refine vx_catch (E := IAE) (name := IAE) hown [] ⟨0, 17, 20, 13⟩ [] htab (fun z hz => absurd hz List.not_mem_nil) (by decide) (by decide) (hts (.classLink RL 13 IAE) (by decide +kernel)) (xC.word hX.2.2.2.1) h3 h4 h5 ?_
  show W p l e _ s m _ below meth c H [] _ _ _ (F0 m 20 ls [.ref q9])
  refine lv_astore (lv' := [(4, .ref q9), (0, .ref h0), (1, .int x0), (2, .float y), (3, .ref qo)]) hx hb dL_gale_20 hl (by decide) rfl (fun ls hl => ?_)
  refine lv_iconst (v := nI 1) hx hb dL_gale_22 (by decide) ?_
  refine vx_ret ?_
  refine W.widen (k := 2) (n := 12) (Nat.le_of_ble_eq_true rfl) (Nat.le_of_ble_eq_true rfl) ?_
  exact W.iret (v := nI 1) hx hb hr (fun t9 ht9 hW9 => ⟨⟨_, rfl, rfl, by rw [ht9]; exact hP⟩, hS.F ht9⟩) hS.2.2 dL_gale_23
set_option maxHeartbeats 4000000 in
set_option maxRecDepth 100000 in
theorem w_lift (l : Launch) (D : va_G) (h0 hn hd hq qo : Nat) (cZ cD cI cJ : ClassId) (nb : Nat → Bool) (v : Nat → UInt64) (ln : Nat → Nat) (go : Bool) (mv : Int32) (oL : Nat → Int64) (hln : ∀ j, ln j ≤ 12) (hl0 : l.stackTraces = false) (zz : Nat) (g : Nat) (k : Nat) (hg : g < 6) (hk : k < 3) : Met l yL_lift wsL_lift ({ frames := 8, cells := 1, slots := 6, locals := 124 }) (va_Pc [.ref h0, .int (nI g), .int (nI k), .ref qo] (fun U => xOK U ∧ xN U ∧ U.heap.size = zz ∧ va_P D vwCl [(h0, .inr (1, [.ref hn, .ref hd, .ref hq, .int (b2i go), .int mv])), (hn, .inl (cZ, 165, .inl (fun j => b2i (nb j)))), (hd, .inl (cD, 165, .inr (.inr (.inr (.inl v))))), (hq, .inl (cI, 12, .inl (fun j => nI (ln j)))), (qo, .inl (cJ, 1, .inr (.inl oL)))] U.heap ∧ va_K D vwCl (TYL cZ cD cI cJ) U ∧ va_D (fun _ => True) [(h0, .inr (1, [.ref hn, .ref hd, .ref hq, .int (b2i go), .int mv])), (hn, .inl (cZ, 165, .inl (fun j => b2i (nb j)))), (hd, .inl (cD, 165, .inr (.inr (.inr (.inl v))))), (hq, .inl (cI, 12, .inl (fun j => nI (ln j)))), (qo, .inl (cJ, 1, .inr (.inl oL)))])) (wr_Qi (fun r => r = nI 0) (fun H => va_P D vwCl [(h0, .inr (1, [.ref hn, .ref hd, .ref hq, .int (b2i go), .int mv])), (hn, .inl (cZ, 165, .inl (fun j => b2i (((up nb (144 + g * 3 + k) false)) j)))), (hd, .inl (cD, 165, .inr (.inr (.inr (.inl v))))), (hq, .inl (cI, 12, .inl (fun j => nI (ln j)))), (qo, .inl (cJ, 1, .inr (.inl (up oL 0 (b2l (nb (144 + g * 3 + k)))))))] H) (va_A [(h0, .inr (1, [.ref hn, .ref hd, .ref hq, .int (b2i go), .int mv])), (hn, .inl (cZ, 165, .inl (fun j => b2i (nb j)))), (hd, .inl (cD, 165, .inr (.inr (.inr (.inl v))))), (hq, .inl (cI, 12, .inl (fun j => nI (ln j)))), (qo, .inl (cJ, 1, .inr (.inl oL)))] zz)) 1 6 (va_A [(h0, .inr (1, [.ref hn, .ref hd, .ref hq, .int (b2i go), .int mv])), (hn, .inl (cZ, 165, .inl (fun j => b2i (nb j)))), (hd, .inl (cD, 165, .inr (.inr (.inr (.inl v))))), (hq, .inl (cI, 12, .inl (fun j => nI (ln j)))), (qo, .inl (cJ, 1, .inr (.inl oL)))] zz) := by
  refine met_of_vx (vx_ofWH (cc := cL_lift) (maxL := 5) (ret := some .int) (hh := [(0, 17, 20, 13)]) (by decide) rfl ?_)
  intro p e s m args below meth c s₁ B hml hv
  obtain ⟨rfl, hX, hN, hsz_, hP, hK, hD0⟩ := hv
  have hx := B.exec
  have hb := B.bytes
  have hr := B.returns
  have hts := atoms_spec (ws := wsL_lift) B.pre
  have hown : s.vm.findClass RL = some m.cls := findClass_of_methodNamed B.named
  have hlocks := B.notSynchronized
  have htab := vx_table (x := yL_lift) (hh := [(0, 17, 20, 13)]) B (hts _ List.mem_cons_self)
  subst hsz_
  have hD := hD0.self (sz := s.heap.size)
  generalize hAe : va_A [(h0, .inr (1, [.ref hn, .ref hd, .ref hq, .int (b2i go), .int mv])), (hn, .inl (cZ, 165, .inl (fun j => b2i (nb j)))), (hd, .inl (cD, 165, .inr (.inr (.inr (.inl v))))), (hq, .inl (cI, 12, .inl (fun j => nI (ln j)))), (qo, .inl (cJ, 1, .inr (.inl oL)))] s.heap.size = A at hD ⊢
  have hA : ∀ q : Nat, s.heap.size ≤ q → A q := fun q h => by rw [← hAe]; exact Or.inr h
  have hS : va_S A s.heap s.heap [] := va_S.rf
  have hl := lv_entry ([.ref h0, .int (nI g), .int (nI k), .ref qo]) (n := 5) (Nat.le_of_ble_eq_true rfl)
  rw [lg_entry_eq]
  generalize (lg_sl ([.ref h0, .int (nI g), .int (nI k), .ref qo]) ++ List.replicate (5 - (lg_sl ([.ref h0, .int (nI g), .int (nI k), .ref qo])).length) Slot.unset).toArray = ls at hl ⊢
  have hl : lv_has ls 5 [(0, .ref h0), (1, .int (nI g)), (2, .int (nI k)), (3, .ref qo)] := hl
  refine lv_aload_n hx hb dL_lift_0 rfl (lv_at hl 3 rfl) ?_
  refine lv_iconst (v := nI 0) hx hb dL_lift_1 (by decide) ?_
  refine lv_aload_n hx hb dL_lift_2 rfl (lv_at hl 0 rfl) ?_
  refine lv_iload_n hx hb dL_lift_3 rfl (lv_at hl 1 rfl) ?_
  refine lv_iload_n hx hb dL_lift_4 rfl (lv_at hl 2 rfl) ?_
  have hPc : va_P D vwCl (WB h0 hn hd hq cZ cD cI nb v ln go mv) s.heap := hP.sub [0, 1, 2, 3] rfl
  have hDc : va_D A (WB h0 hn hd hq cZ cD cI nb v ln go mv) := hD.sub [0, 1, 2, 3] (by decide) rfl
  have hKc : va_K D vwCl (TY cZ cD cI) s := hK.sub [0, 1, 2] rfl
  have hFc := va_free (wc := WB h0 hn hd hq cZ cD cI nb v ln go mv) hD hS hA [0, 1, 2, 3] rfl
  refine wr_calli (va_runV (As := [.int (nI g), .int (nI k)]) (rest := [.int (nI 0), .ref qo]) ⟨hx, hb, hml, hown, hts⟩ (c_X0_lift l D h0 hn hd hq cZ cD cI nb v ln go mv hln hl0 s.heap.size g k hg hk) (cwV 2 hts gL_lift_X0_lift rfl rfl rfl (by decide +kernel) ⟨Nat.le_of_ble_eq_true rfl, Nat.le_of_ble_eq_true rfl⟩) ⟨fun a U g mk q => ⟨q.1, xOK_call q.2.1 g mk a, q.2.2.1, q.2.2.2.1, va_K.moved (u := U) (U := U.calling g mk a) (Vm.Alike.refl U.vm) q.2.2.2.2.1, q.2.2.2.2.2⟩, va_recv hKc hPc (ci := 1) (q0 := 0) rfl rfl, fun U hU hW => ⟨rfl, xOK_at hX hU hW, by rw [hU], by rw [hU]; exact hPc, va_K.moved hW.alike hKc, hDc.weaken (fun _ _ _ _ => trivial)⟩⟩ rfl rfl hl.1 rfl (lv_room (Nat.le_of_ble_eq_true rfl)) dL_lift_5 ⟨Nat.le_of_ble_eq_true rfl, Nat.le_of_ble_eq_true rfl⟩) hS hFc (fun r_1 H locs hr_1 hP1 hz1 hk1 hS => ?_)
  subst hr_1
  obtain ⟨hP, -⟩ := va_join (wr := [(qo, .inl (cJ, 1, .inr (.inl oL)))]) (w1 := WB h0 hn hd hq cZ cD cI (up nb (144 + g * 3 + k) false) v ln go mv) hP hD [0, 1, 2, 3] [4] rfl rfl (by decide) (by decide) hk1 hFc hP1 (va_D_same (ws := WB h0 hn hd hq cZ cD cI nb v ln go mv) rfl (hDc.self (sz := s.heap.size)))
  have hP : va_P D vwCl [(h0, .inr (1, [.ref hn, .ref hd, .ref hq, .int (b2i go), .int mv])), (hn, .inl (cZ, 165, .inl (fun j => b2i (((up nb (144 + g * 3 + k) false)) j)))), (hd, .inl (cD, 165, .inr (.inr (.inr (.inl v))))), (hq, .inl (cI, 12, .inl (fun j => nI (ln j)))), (qo, .inl (cJ, 1, .inr (.inl oL)))] H := hP.sub [1, 2, 3, 4, 0] rfl
  have hD : va_D A [(h0, .inr (1, [.ref hn, .ref hd, .ref hq, .int (b2i go), .int mv])), (hn, .inl (cZ, 165, .inl (fun j => b2i (((up nb (144 + g * 3 + k) false)) j)))), (hd, .inl (cD, 165, .inr (.inr (.inr (.inl v))))), (hq, .inl (cI, 12, .inl (fun j => nI (ln j)))), (qo, .inl (cJ, 1, .inr (.inl oL)))] := va_D_same (ws := [(h0, .inr (1, [.ref hn, .ref hd, .ref hq, .int (b2i go), .int mv])), (hn, .inl (cZ, 165, .inl (fun j => b2i (nb j)))), (hd, .inl (cD, 165, .inr (.inr (.inr (.inl v))))), (hq, .inl (cI, 12, .inl (fun j => nI (ln j)))), (qo, .inl (cJ, 1, .inr (.inl oL)))]) rfl hD
  refine kb_eq (tgt := 15) hx hb dL_lift_8 (by decide) (fun c_1 => ?_) (fun c_1 => ?_)
  · refine lv_lconst (v := 0) hx hb dL_lift_15 (by decide) ?_
    refine kn_last hx hb hK hP hD hS 4 3 rfl rfl (by omega) (by decide) dL_lift_16 (fun H locs hP hD hS => ?_)
    have hP : va_P D vwCl ([(h0, .inr (1, [.ref hn, .ref hd, .ref hq, .int (b2i go), .int mv])), (hn, .inl (cZ, 165, .inl (fun j => b2i (((up nb (144 + g * 3 + k) false)) j)))), (hd, .inl (cD, 165, .inr (.inr (.inr (.inl v))))), (hq, .inl (cI, 12, .inl (fun j => nI (ln j)))), (qo, .inl (cJ, 1, .inr (.inl (up oL 0 0))))]) H := hP
    have hD : va_D A ([(h0, .inr (1, [.ref hn, .ref hd, .ref hq, .int (b2i go), .int mv])), (hn, .inl (cZ, 165, .inl (fun j => b2i (((up nb (144 + g * 3 + k) false)) j)))), (hd, .inl (cD, 165, .inr (.inr (.inr (.inl v))))), (hq, .inl (cI, 12, .inl (fun j => nI (ln j)))), (qo, .inl (cJ, 1, .inr (.inl (up oL 0 0))))]) := hD
    refine lv_goto (tgt := 24) hx hb dL_lift_17 (by decide) ?_
    refine lv_iconst (v := nI 0) hx hb dL_lift_24 (by decide) ?_
    refine vx_ret ?_
    refine W.widen (k := 1) (n := 6) (Nat.le_of_ble_eq_true rfl) (Nat.le_of_ble_eq_true rfl) ?_
    exact W.iret (v := nI 0) hx hb hr (fun t9 ht9 hW9 => ⟨⟨_, rfl, rfl, by rw [ht9, show b2l (nb (144 + g * 3 + k)) = 0 from by rw [c_1]; rfl]; exact hP⟩, hS.F ht9⟩) hS.2.2 dL_lift_25
  · refine lv_lconst (v := 1) hx hb dL_lift_11 (by decide) ?_
    refine lv_goto (tgt := 16) hx hb dL_lift_12 (by decide) ?_
    refine kn_last hx hb hK hP hD hS 4 3 rfl rfl (by omega) (by decide) dL_lift_16 (fun H locs hP hD hS => ?_)
    have hP : va_P D vwCl ([(h0, .inr (1, [.ref hn, .ref hd, .ref hq, .int (b2i go), .int mv])), (hn, .inl (cZ, 165, .inl (fun j => b2i (((up nb (144 + g * 3 + k) false)) j)))), (hd, .inl (cD, 165, .inr (.inr (.inr (.inl v))))), (hq, .inl (cI, 12, .inl (fun j => nI (ln j)))), (qo, .inl (cJ, 1, .inr (.inl (up oL 0 1))))]) H := hP
    have hD : va_D A ([(h0, .inr (1, [.ref hn, .ref hd, .ref hq, .int (b2i go), .int mv])), (hn, .inl (cZ, 165, .inl (fun j => b2i (((up nb (144 + g * 3 + k) false)) j)))), (hd, .inl (cD, 165, .inr (.inr (.inr (.inl v))))), (hq, .inl (cI, 12, .inl (fun j => nI (ln j)))), (qo, .inl (cJ, 1, .inr (.inl (up oL 0 1))))]) := hD
    refine lv_goto (tgt := 24) hx hb dL_lift_17 (by decide) ?_
    refine lv_iconst (v := nI 0) hx hb dL_lift_24 (by decide) ?_
    refine vx_ret ?_
    refine W.widen (k := 1) (n := 6) (Nat.le_of_ble_eq_true rfl) (Nat.le_of_ble_eq_true rfl) ?_
    exact W.iret (v := nI 0) hx hb hr (fun t9 ht9 hW9 => ⟨⟨_, rfl, rfl, by rw [ht9, show b2l (nb (144 + g * 3 + k)) = 1 from by rw [c_1]; rfl]; exact hP⟩, hS.F ht9⟩) hS.2.2 dL_lift_25
set_option maxHeartbeats 4000000 in
set_option maxRecDepth 100000 in
theorem w_lift_bad (l : Launch) (D : va_G) (h0 hn hd hq qo : Nat) (cZ cD cI cJ : ClassId) (nb : Nat → Bool) (v : Nat → UInt64) (ln : Nat → Nat) (go : Bool) (mv : Int32) (oL : Nat → Int64) (hln : ∀ j, ln j ≤ 12) (hl0 : l.stackTraces = false) (zz : Nat) (x0 : Int32) (x1 : Int32) (hbad : ¬ (InN 6 x0 ∧ InN 3 x1)) : Met l yL_lift wsL_lift ({ frames := 8, cells := 2, slots := 12, locals := 124 }) (va_Pc [.ref h0, .int x0, .int x1, .ref qo] (fun U => xOK U ∧ xN U ∧ U.heap.size = zz ∧ va_P D vwCl [(h0, .inr (1, [.ref hn, .ref hd, .ref hq, .int (b2i go), .int mv])), (hn, .inl (cZ, 165, .inl (fun j => b2i (nb j)))), (hd, .inl (cD, 165, .inr (.inr (.inr (.inl v))))), (hq, .inl (cI, 12, .inl (fun j => nI (ln j)))), (qo, .inl (cJ, 1, .inr (.inl oL)))] U.heap ∧ va_K D vwCl (TYL cZ cD cI cJ) U ∧ va_D (fun _ => True) [(h0, .inr (1, [.ref hn, .ref hd, .ref hq, .int (b2i go), .int mv])), (hn, .inl (cZ, 165, .inl (fun j => b2i (nb j)))), (hd, .inl (cD, 165, .inr (.inr (.inr (.inl v))))), (hq, .inl (cI, 12, .inl (fun j => nI (ln j)))), (qo, .inl (cJ, 1, .inr (.inl oL)))])) (wr_Qi (fun r => r = nI 1) (fun H => va_P D vwCl [(h0, .inr (1, [.ref hn, .ref hd, .ref hq, .int (b2i go), .int mv])), (hn, .inl (cZ, 165, .inl (fun j => b2i (nb j)))), (hd, .inl (cD, 165, .inr (.inr (.inr (.inl v))))), (hq, .inl (cI, 12, .inl (fun j => nI (ln j)))), (qo, .inl (cJ, 1, .inr (.inl oL)))] H) (va_A [(h0, .inr (1, [.ref hn, .ref hd, .ref hq, .int (b2i go), .int mv])), (hn, .inl (cZ, 165, .inl (fun j => b2i (nb j)))), (hd, .inl (cD, 165, .inr (.inr (.inr (.inl v))))), (hq, .inl (cI, 12, .inl (fun j => nI (ln j)))), (qo, .inl (cJ, 1, .inr (.inl oL)))] zz)) 2 12 (va_A [(h0, .inr (1, [.ref hn, .ref hd, .ref hq, .int (b2i go), .int mv])), (hn, .inl (cZ, 165, .inl (fun j => b2i (nb j)))), (hd, .inl (cD, 165, .inr (.inr (.inr (.inl v))))), (hq, .inl (cI, 12, .inl (fun j => nI (ln j)))), (qo, .inl (cJ, 1, .inr (.inl oL)))] zz) := by
  refine met_of_vx (vx_ofWH (cc := cL_lift) (maxL := 5) (ret := some .int) (hh := [(0, 17, 20, 13)]) (by decide) rfl ?_)
  intro p e s m args below meth c s₁ B hml hv
  obtain ⟨rfl, hX, hN, hsz_, hP, hK, hD0⟩ := hv
  have hx := B.exec
  have hb := B.bytes
  have hr := B.returns
  have hts := atoms_spec (ws := wsL_lift) B.pre
  have hown : s.vm.findClass RL = some m.cls := findClass_of_methodNamed B.named
  have hlocks := B.notSynchronized
  have htab := vx_table (x := yL_lift) (hh := [(0, 17, 20, 13)]) B (hts _ List.mem_cons_self)
  subst hsz_
  have hD := hD0.self (sz := s.heap.size)
  generalize hAe : va_A [(h0, .inr (1, [.ref hn, .ref hd, .ref hq, .int (b2i go), .int mv])), (hn, .inl (cZ, 165, .inl (fun j => b2i (nb j)))), (hd, .inl (cD, 165, .inr (.inr (.inr (.inl v))))), (hq, .inl (cI, 12, .inl (fun j => nI (ln j)))), (qo, .inl (cJ, 1, .inr (.inl oL)))] s.heap.size = A at hD ⊢
  have hA : ∀ q : Nat, s.heap.size ≤ q → A q := fun q h => by rw [← hAe]; exact Or.inr h
  have hS : va_S A s.heap s.heap [] := va_S.rf
  have hl := lv_entry ([.ref h0, .int x0, .int x1, .ref qo]) (n := 5) (Nat.le_of_ble_eq_true rfl)
  rw [lg_entry_eq]
  generalize (lg_sl ([.ref h0, .int x0, .int x1, .ref qo]) ++ List.replicate (5 - (lg_sl ([.ref h0, .int x0, .int x1, .ref qo])).length) Slot.unset).toArray = ls at hl ⊢
  have hl : lv_has ls 5 [(0, .ref h0), (1, .int x0), (2, .int x1), (3, .ref qo)] := hl
  refine lv_aload_n hx hb dL_lift_0 rfl (lv_at hl 3 rfl) ?_
  refine lv_iconst (v := nI 0) hx hb dL_lift_1 (by decide) ?_
  refine lv_aload_n hx hb dL_lift_2 rfl (lv_at hl 0 rfl) ?_
  refine lv_iload_n hx hb dL_lift_3 rfl (lv_at hl 1 rfl) ?_
  refine lv_iload_n hx hb dL_lift_4 rfl (lv_at hl 2 rfl) ?_
  have hPc : va_P D vwCl (WB h0 hn hd hq cZ cD cI nb v ln go mv) s.heap := hP.sub [0, 1, 2, 3] rfl
  have hDc : va_D A (WB h0 hn hd hq cZ cD cI nb v ln go mv) := hD.sub [0, 1, 2, 3] (by decide) rfl
  have hKc : va_K D vwCl (TY cZ cD cI) s := hK.sub [0, 1, 2] rfl
  refine kv_never (vx_runV (As := [.int x0, .int x1]) (rest := [.int (nI 0), .ref qo]) ⟨hx, hb, hml, hown, hts⟩ (c_X0_lift_bad l D h0 hn hd hq cZ cD cI nb v ln go mv hln hl0 x0 x1 hbad) (cwV 2 hts gL_lift_X0_lift rfl rfl rfl (by decide +kernel) ⟨Nat.le_of_ble_eq_true rfl, Nat.le_of_ble_eq_true rfl⟩) ⟨fun a U g mk q => ⟨q.1, xOK_call q.2.1 g mk a, q.2.2.1, va_K.moved (u := U) (U := U.calling g mk a) (Vm.Alike.refl U.vm) q.2.2.2⟩, va_recv hKc hPc (ci := 1) (q0 := 0) rfl rfl, fun U hU hW => ⟨rfl, xOK_at hX hU hW, by rw [hU]; exact hPc, va_K.moved hW.alike hKc⟩⟩ rfl rfl hl.1 rfl (lv_room (Nat.le_of_ble_eq_true rfl)) dL_lift_5 ⟨Nat.le_of_ble_eq_true rfl, Nat.le_of_ble_eq_true rfl⟩) (fun E9 ce q9 H hE h1 h2 h3 h4 h5 => ?_)
  subst hE
  have hP : va_P D vwCl [(h0, .inr (1, [.ref hn, .ref hd, .ref hq, .int (b2i go), .int mv])), (hn, .inl (cZ, 165, .inl (fun j => b2i (nb j)))), (hd, .inl (cD, 165, .inr (.inr (.inr (.inl v))))), (hq, .inl (cI, 12, .inl (fun j => nI (ln j)))), (qo, .inl (cJ, 1, .inr (.inl oL)))] H := hP.kept (fun k q hk => h2 q.1 (vx_lt hP hk))
  have hS : va_S A s.heap H [] := ⟨h1, fun q hq _ => h2 q hq, fun q hq => absurd hq List.not_mem_nil⟩
  refine vx_catch (E := IAE) (name := IAE) hown [] ⟨0, 17, 20, 13⟩ [] htab (fun z hz => absurd hz List.not_mem_nil) (by decide) (by decide) (hts (.classLink RL 13 IAE) (by decide +kernel)) (xC.word hX.2.2.2.1) h3 h4 h5 ?_
  show W p l e _ s m _ below meth c H [] _ _ _ (F0 m 20 ls [.ref q9])
  refine lv_astore (lv' := [(4, .ref q9), (0, .ref h0), (1, .int x0), (2, .int x1), (3, .ref qo)]) hx hb dL_lift_20 hl (by decide) rfl (fun ls hl => ?_)
  refine lv_iconst (v := nI 1) hx hb dL_lift_22 (by decide) ?_
  refine vx_ret ?_
  refine W.widen (k := 2) (n := 12) (Nat.le_of_ble_eq_true rfl) (Nat.le_of_ble_eq_true rfl) ?_
  exact W.iret (v := nI 1) hx hb hr (fun t9 ht9 hW9 => ⟨⟨_, rfl, rfl, by rw [ht9]; exact hP⟩, hS.F ht9⟩) hS.2.2 dL_lift_23
set_option maxHeartbeats 4000000 in
set_option maxRecDepth 100000 in
theorem w_probe (l : Launch) (D : va_G) (h0 hn hd hq qo : Nat) (cZ cD cI cJ : ClassId) (nb : Nat → Bool) (v : Nat → UInt64) (ln : Nat → Nat) (go : Bool) (mv : Int32) (oL : Nat → Int64) (hln : ∀ j, ln j ≤ 12) (hl0 : l.stackTraces = false) (zz : Nat) (x : UInt64) (hlv : lvl x = true) : Met l yL_probe wsL_probe ({ frames := 8, cells := 1, slots := 6, locals := 125 }) (va_Pc [.ref h0, .double x, .ref qo] (fun U => xOK U ∧ xN U ∧ U.heap.size = zz ∧ va_P D vwCl [(h0, .inr (1, [.ref hn, .ref hd, .ref hq, .int (b2i go), .int mv])), (hn, .inl (cZ, 165, .inl (fun j => b2i (nb j)))), (hd, .inl (cD, 165, .inr (.inr (.inr (.inl v))))), (hq, .inl (cI, 12, .inl (fun j => nI (ln j)))), (qo, .inl (cJ, 1, .inr (.inl oL)))] U.heap ∧ va_K D vwCl (TYL cZ cD cI cJ) U ∧ va_D (fun _ => True) [(h0, .inr (1, [.ref hn, .ref hd, .ref hq, .int (b2i go), .int mv])), (hn, .inl (cZ, 165, .inl (fun j => b2i (nb j)))), (hd, .inl (cD, 165, .inr (.inr (.inr (.inl v))))), (hq, .inl (cI, 12, .inl (fun j => nI (ln j)))), (qo, .inl (cJ, 1, .inr (.inl oL)))])) (wr_Qi (fun r => r = nI 0) (fun H => va_P D vwCl [(h0, .inr (1, [.ref hn, .ref hd, .ref hq, .int (b2i go), .int mv])), (hn, .inl (cZ, 165, .inl (fun j => b2i (((up nb (162 + 0) true)) j)))), (hd, .inl (cD, 165, .inr (.inr (.inr (.inl ((up v (162 + 0) x))))))), (hq, .inl (cI, 12, .inl (fun j => nI (ln j)))), (qo, .inl (cJ, 1, .inr (.inl (up oL 0 (Int32.toInt64 (nI (gr (up nb (162 + 0) true) (up v (162 + 0) x) ln 0 4)))))))] H) (va_A [(h0, .inr (1, [.ref hn, .ref hd, .ref hq, .int (b2i go), .int mv])), (hn, .inl (cZ, 165, .inl (fun j => b2i (nb j)))), (hd, .inl (cD, 165, .inr (.inr (.inr (.inl v))))), (hq, .inl (cI, 12, .inl (fun j => nI (ln j)))), (qo, .inl (cJ, 1, .inr (.inl oL)))] zz)) 1 6 (va_A [(h0, .inr (1, [.ref hn, .ref hd, .ref hq, .int (b2i go), .int mv])), (hn, .inl (cZ, 165, .inl (fun j => b2i (nb j)))), (hd, .inl (cD, 165, .inr (.inr (.inr (.inl v))))), (hq, .inl (cI, 12, .inl (fun j => nI (ln j)))), (qo, .inl (cJ, 1, .inr (.inl oL)))] zz) := by
  refine met_of_vx (vx_ofWH (cc := cL_probe) (maxL := 5) (ret := some .int) (hh := [(0, 9, 12, 13)]) (by decide) rfl ?_)
  intro p e s m args below meth c s₁ B hml hv
  obtain ⟨rfl, hX, hN, hsz_, hP, hK, hD0⟩ := hv
  have hx := B.exec
  have hb := B.bytes
  have hr := B.returns
  have hts := atoms_spec (ws := wsL_probe) B.pre
  have hown : s.vm.findClass RL = some m.cls := findClass_of_methodNamed B.named
  have hlocks := B.notSynchronized
  have htab := vx_table (x := yL_probe) (hh := [(0, 9, 12, 13)]) B (hts _ List.mem_cons_self)
  subst hsz_
  have hD := hD0.self (sz := s.heap.size)
  generalize hAe : va_A [(h0, .inr (1, [.ref hn, .ref hd, .ref hq, .int (b2i go), .int mv])), (hn, .inl (cZ, 165, .inl (fun j => b2i (nb j)))), (hd, .inl (cD, 165, .inr (.inr (.inr (.inl v))))), (hq, .inl (cI, 12, .inl (fun j => nI (ln j)))), (qo, .inl (cJ, 1, .inr (.inl oL)))] s.heap.size = A at hD ⊢
  have hA : ∀ q : Nat, s.heap.size ≤ q → A q := fun q h => by rw [← hAe]; exact Or.inr h
  have hS : va_S A s.heap s.heap [] := va_S.rf
  have hl := lv_entry ([.ref h0, .double x, .ref qo]) (n := 5) (Nat.le_of_ble_eq_true rfl)
  rw [lg_entry_eq]
  generalize (lg_sl ([.ref h0, .double x, .ref qo]) ++ List.replicate (5 - (lg_sl ([.ref h0, .double x, .ref qo])).length) Slot.unset).toArray = ls at hl ⊢
  have hl : lv_has ls 5 [(0, .ref h0), (1, .double x), (3, .ref qo)] := hl
  refine lv_aload_n hx hb dL_probe_0 rfl (lv_at hl 2 rfl) ?_
  refine lv_iconst (v := nI 0) hx hb dL_probe_1 (by decide) ?_
  refine lv_aload_n hx hb dL_probe_2 rfl (lv_at hl 0 rfl) ?_
  refine lv_dload_n hx hb dL_probe_3 rfl (lv_at hl 1 rfl) ?_
  have hPc : va_P D vwCl (WB h0 hn hd hq cZ cD cI nb v ln go mv) s.heap := hP.sub [0, 1, 2, 3] rfl
  have hDc : va_D A (WB h0 hn hd hq cZ cD cI nb v ln go mv) := hD.sub [0, 1, 2, 3] (by decide) rfl
  have hKc : va_K D vwCl (TY cZ cD cI) s := hK.sub [0, 1, 2] rfl
  have hFc := va_free (wc := WB h0 hn hd hq cZ cD cI nb v ln go mv) hD hS hA [0, 1, 2, 3] rfl
  refine wr_calli (va_runV (As := [.double x]) (rest := [.int (nI 0), .ref qo]) ⟨hx, hb, hml, hown, hts⟩ (c_X0_probe l D h0 hn hd hq cZ cD cI nb v ln go mv hln hl0 s.heap.size x hlv) (cwV 1 hts gL_probe_X0_probe rfl rfl rfl (by decide +kernel) ⟨Nat.le_of_ble_eq_true rfl, Nat.le_of_ble_eq_true rfl⟩) ⟨fun a U g mk q => ⟨q.1, xOK_call q.2.1 g mk a, q.2.2.1, q.2.2.2.1, va_K.moved (u := U) (U := U.calling g mk a) (Vm.Alike.refl U.vm) q.2.2.2.2.1, q.2.2.2.2.2⟩, va_recv hKc hPc (ci := 1) (q0 := 0) rfl rfl, fun U hU hW => ⟨rfl, xOK_at hX hU hW, by rw [hU], by rw [hU]; exact hPc, va_K.moved hW.alike hKc, hDc.weaken (fun _ _ _ _ => trivial)⟩⟩ rfl rfl hl.1 rfl (lv_room (Nat.le_of_ble_eq_true rfl)) dL_probe_4 ⟨Nat.le_of_ble_eq_true rfl, Nat.le_of_ble_eq_true rfl⟩) hS hFc (fun r_1 H locs hr_1 hP1 hz1 hk1 hS => ?_)
  subst hr_1
  obtain ⟨hP, -⟩ := va_join (wr := [(qo, .inl (cJ, 1, .inr (.inl oL)))]) (w1 := WB h0 hn hd hq cZ cD cI (up nb (162 + 0) true) (up v (162 + 0) x) ln go mv) hP hD [0, 1, 2, 3] [4] rfl rfl (by decide) (by decide) hk1 hFc hP1 (va_D_same (ws := WB h0 hn hd hq cZ cD cI nb v ln go mv) rfl (hDc.self (sz := s.heap.size)))
  have hP : va_P D vwCl [(h0, .inr (1, [.ref hn, .ref hd, .ref hq, .int (b2i go), .int mv])), (hn, .inl (cZ, 165, .inl (fun j => b2i (((up nb (162 + 0) true)) j)))), (hd, .inl (cD, 165, .inr (.inr (.inr (.inl ((up v (162 + 0) x))))))), (hq, .inl (cI, 12, .inl (fun j => nI (ln j)))), (qo, .inl (cJ, 1, .inr (.inl oL)))] H := hP.sub [1, 2, 3, 4, 0] rfl
  have hD : va_D A [(h0, .inr (1, [.ref hn, .ref hd, .ref hq, .int (b2i go), .int mv])), (hn, .inl (cZ, 165, .inl (fun j => b2i (((up nb (162 + 0) true)) j)))), (hd, .inl (cD, 165, .inr (.inr (.inr (.inl ((up v (162 + 0) x))))))), (hq, .inl (cI, 12, .inl (fun j => nI (ln j)))), (qo, .inl (cJ, 1, .inr (.inl oL)))] := va_D_same (ws := [(h0, .inr (1, [.ref hn, .ref hd, .ref hq, .int (b2i go), .int mv])), (hn, .inl (cZ, 165, .inl (fun j => b2i (nb j)))), (hd, .inl (cD, 165, .inr (.inr (.inr (.inl v))))), (hq, .inl (cI, 12, .inl (fun j => nI (ln j)))), (qo, .inl (cJ, 1, .inr (.inl oL)))]) rfl hD
  refine lv_i2l hx hb dL_probe_7 rfl ?_
  refine kn_last hx hb hK hP hD hS 4 3 rfl rfl (by omega) (by decide) dL_probe_8 (fun H locs hP hD hS => ?_)
  have hP : va_P D vwCl ([(h0, .inr (1, [.ref hn, .ref hd, .ref hq, .int (b2i go), .int mv])), (hn, .inl (cZ, 165, .inl (fun j => b2i (((up nb (162 + 0) true)) j)))), (hd, .inl (cD, 165, .inr (.inr (.inr (.inl ((up v (162 + 0) x))))))), (hq, .inl (cI, 12, .inl (fun j => nI (ln j)))), (qo, .inl (cJ, 1, .inr (.inl (up oL 0 (Int32.toInt64 (nI (gr (up nb (162 + 0) true) (up v (162 + 0) x) ln 0 4)))))))]) H := hP
  have hD : va_D A ([(h0, .inr (1, [.ref hn, .ref hd, .ref hq, .int (b2i go), .int mv])), (hn, .inl (cZ, 165, .inl (fun j => b2i (((up nb (162 + 0) true)) j)))), (hd, .inl (cD, 165, .inr (.inr (.inr (.inl ((up v (162 + 0) x))))))), (hq, .inl (cI, 12, .inl (fun j => nI (ln j)))), (qo, .inl (cJ, 1, .inr (.inl (up oL 0 (Int32.toInt64 (nI (gr (up nb (162 + 0) true) (up v (162 + 0) x) ln 0 4)))))))]) := hD
  refine lv_goto (tgt := 16) hx hb dL_probe_9 (by decide) ?_
  refine lv_iconst (v := nI 0) hx hb dL_probe_16 (by decide) ?_
  refine vx_ret ?_
  refine W.widen (k := 1) (n := 6) (Nat.le_of_ble_eq_true rfl) (Nat.le_of_ble_eq_true rfl) ?_
  exact W.iret (v := nI 0) hx hb hr (fun t9 ht9 hW9 => ⟨⟨_, rfl, rfl, by rw [ht9]; exact hP⟩, hS.F ht9⟩) hS.2.2 dL_probe_17
set_option maxHeartbeats 4000000 in
set_option maxRecDepth 100000 in
theorem w_probe_bad (l : Launch) (D : va_G) (h0 hn hd hq qo : Nat) (cZ cD cI cJ : ClassId) (nb : Nat → Bool) (v : Nat → UInt64) (ln : Nat → Nat) (go : Bool) (mv : Int32) (oL : Nat → Int64) (hln : ∀ j, ln j ≤ 12) (hl0 : l.stackTraces = false) (zz : Nat) (y : UInt64) (hbad : ¬ (lvl y = true)) : Met l yL_probe wsL_probe ({ frames := 8, cells := 1, slots := 6, locals := 125 }) (va_Pc [.ref h0, .double y, .ref qo] (fun U => xOK U ∧ xN U ∧ U.heap.size = zz ∧ va_P D vwCl [(h0, .inr (1, [.ref hn, .ref hd, .ref hq, .int (b2i go), .int mv])), (hn, .inl (cZ, 165, .inl (fun j => b2i (nb j)))), (hd, .inl (cD, 165, .inr (.inr (.inr (.inl v))))), (hq, .inl (cI, 12, .inl (fun j => nI (ln j)))), (qo, .inl (cJ, 1, .inr (.inl oL)))] U.heap ∧ va_K D vwCl (TYL cZ cD cI cJ) U ∧ va_D (fun _ => True) [(h0, .inr (1, [.ref hn, .ref hd, .ref hq, .int (b2i go), .int mv])), (hn, .inl (cZ, 165, .inl (fun j => b2i (nb j)))), (hd, .inl (cD, 165, .inr (.inr (.inr (.inl v))))), (hq, .inl (cI, 12, .inl (fun j => nI (ln j)))), (qo, .inl (cJ, 1, .inr (.inl oL)))])) (wr_Qi (fun r => r = nI 1) (fun H => va_P D vwCl [(h0, .inr (1, [.ref hn, .ref hd, .ref hq, .int (b2i go), .int mv])), (hn, .inl (cZ, 165, .inl (fun j => b2i (nb j)))), (hd, .inl (cD, 165, .inr (.inr (.inr (.inl v))))), (hq, .inl (cI, 12, .inl (fun j => nI (ln j)))), (qo, .inl (cJ, 1, .inr (.inl oL)))] H) (va_A [(h0, .inr (1, [.ref hn, .ref hd, .ref hq, .int (b2i go), .int mv])), (hn, .inl (cZ, 165, .inl (fun j => b2i (nb j)))), (hd, .inl (cD, 165, .inr (.inr (.inr (.inl v))))), (hq, .inl (cI, 12, .inl (fun j => nI (ln j)))), (qo, .inl (cJ, 1, .inr (.inl oL)))] zz)) 1 6 (va_A [(h0, .inr (1, [.ref hn, .ref hd, .ref hq, .int (b2i go), .int mv])), (hn, .inl (cZ, 165, .inl (fun j => b2i (nb j)))), (hd, .inl (cD, 165, .inr (.inr (.inr (.inl v))))), (hq, .inl (cI, 12, .inl (fun j => nI (ln j)))), (qo, .inl (cJ, 1, .inr (.inl oL)))] zz) := by
  refine met_of_vx (vx_ofWH (cc := cL_probe) (maxL := 5) (ret := some .int) (hh := [(0, 9, 12, 13)]) (by decide) rfl ?_)
  intro p e s m args below meth c s₁ B hml hv
  obtain ⟨rfl, hX, hN, hsz_, hP, hK, hD0⟩ := hv
  have hx := B.exec
  have hb := B.bytes
  have hr := B.returns
  have hts := atoms_spec (ws := wsL_probe) B.pre
  have hown : s.vm.findClass RL = some m.cls := findClass_of_methodNamed B.named
  have hlocks := B.notSynchronized
  have htab := vx_table (x := yL_probe) (hh := [(0, 9, 12, 13)]) B (hts _ List.mem_cons_self)
  subst hsz_
  have hD := hD0.self (sz := s.heap.size)
  generalize hAe : va_A [(h0, .inr (1, [.ref hn, .ref hd, .ref hq, .int (b2i go), .int mv])), (hn, .inl (cZ, 165, .inl (fun j => b2i (nb j)))), (hd, .inl (cD, 165, .inr (.inr (.inr (.inl v))))), (hq, .inl (cI, 12, .inl (fun j => nI (ln j)))), (qo, .inl (cJ, 1, .inr (.inl oL)))] s.heap.size = A at hD ⊢
  have hA : ∀ q : Nat, s.heap.size ≤ q → A q := fun q h => by rw [← hAe]; exact Or.inr h
  have hS : va_S A s.heap s.heap [] := va_S.rf
  have hl := lv_entry ([.ref h0, .double y, .ref qo]) (n := 5) (Nat.le_of_ble_eq_true rfl)
  rw [lg_entry_eq]
  generalize (lg_sl ([.ref h0, .double y, .ref qo]) ++ List.replicate (5 - (lg_sl ([.ref h0, .double y, .ref qo])).length) Slot.unset).toArray = ls at hl ⊢
  have hl : lv_has ls 5 [(0, .ref h0), (1, .double y), (3, .ref qo)] := hl
  refine lv_aload_n hx hb dL_probe_0 rfl (lv_at hl 2 rfl) ?_
  refine lv_iconst (v := nI 0) hx hb dL_probe_1 (by decide) ?_
  refine lv_aload_n hx hb dL_probe_2 rfl (lv_at hl 0 rfl) ?_
  refine lv_dload_n hx hb dL_probe_3 rfl (lv_at hl 1 rfl) ?_
  have hPc : va_P D vwCl (WB h0 hn hd hq cZ cD cI nb v ln go mv) s.heap := hP.sub [0, 1, 2, 3] rfl
  have hDc : va_D A (WB h0 hn hd hq cZ cD cI nb v ln go mv) := hD.sub [0, 1, 2, 3] (by decide) rfl
  have hKc : va_K D vwCl (TY cZ cD cI) s := hK.sub [0, 1, 2] rfl
  refine kv_never (vx_runV (As := [.double y]) (rest := [.int (nI 0), .ref qo]) ⟨hx, hb, hml, hown, hts⟩ (c_X0_probe_bad l D h0 hn hd hq cZ cD cI nb v ln go mv hln hl0 y hbad) (cwV 1 hts gL_probe_X0_probe rfl rfl rfl (by decide +kernel) ⟨Nat.le_of_ble_eq_true rfl, Nat.le_of_ble_eq_true rfl⟩) ⟨fun a U g mk q => ⟨q.1, xOK_call q.2.1 g mk a, q.2.2.1, va_K.moved (u := U) (U := U.calling g mk a) (Vm.Alike.refl U.vm) q.2.2.2⟩, va_recv hKc hPc (ci := 1) (q0 := 0) rfl rfl, fun U hU hW => ⟨rfl, xOK_at hX hU hW, by rw [hU]; exact hPc, va_K.moved hW.alike hKc⟩⟩ rfl rfl hl.1 rfl (lv_room (Nat.le_of_ble_eq_true rfl)) dL_probe_4 ⟨Nat.le_of_ble_eq_true rfl, Nat.le_of_ble_eq_true rfl⟩) (fun E9 ce q9 H hE h1 h2 h3 h4 h5 => ?_)
  subst hE
  have hP : va_P D vwCl [(h0, .inr (1, [.ref hn, .ref hd, .ref hq, .int (b2i go), .int mv])), (hn, .inl (cZ, 165, .inl (fun j => b2i (nb j)))), (hd, .inl (cD, 165, .inr (.inr (.inr (.inl v))))), (hq, .inl (cI, 12, .inl (fun j => nI (ln j)))), (qo, .inl (cJ, 1, .inr (.inl oL)))] H := hP.kept (fun k q hk => h2 q.1 (vx_lt hP hk))
  have hS : va_S A s.heap H [] := ⟨h1, fun q hq _ => h2 q hq, fun q hq => absurd hq List.not_mem_nil⟩
  refine vx_catch (E := IAE) (name := IAE) hown [] ⟨0, 9, 12, 13⟩ [] htab (fun z hz => absurd hz List.not_mem_nil) (by decide) (by decide) (hts (.classLink RL 13 IAE) (by decide +kernel)) (xC.word hX.2.2.2.1) h3 h4 h5 ?_
  show W p l e _ s m _ below meth c H [] _ _ _ (F0 m 12 ls [.ref q9])
  refine lv_astore (lv' := [(4, .ref q9), (0, .ref h0), (1, .double y), (3, .ref qo)]) hx hb dL_probe_12 hl (by decide) rfl (fun ls hl => ?_)
  refine lv_iconst (v := nI 1) hx hb dL_probe_14 (by decide) ?_
  refine vx_ret ?_
  refine W.widen (k := 1) (n := 6) (Nat.le_of_ble_eq_true rfl) (Nat.le_of_ble_eq_true rfl) ?_
  exact W.iret (v := nI 1) hx hb hr (fun t9 ht9 hW9 => ⟨⟨_, rfl, rfl, by rw [ht9]; exact hP⟩, hS.F ht9⟩) hS.2.2 dL_probe_15
set_option maxHeartbeats 4000000 in
set_option maxRecDepth 100000 in
theorem w_probeWind (l : Launch) (D : va_G) (h0 hn hd hq qo : Nat) (cZ cD cI cJ : ClassId) (nb : Nat → Bool) (v : Nat → UInt64) (ln : Nat → Nat) (go : Bool) (mv : Int32) (oL : Nat → Int64) (hln : ∀ j, ln j ≤ 12) (hl0 : l.stackTraces = false) (zz : Nat) (x : UInt32) (hlv : wnd x = true) : Met l yL_probeWind wsL_probeWind ({ frames := 8, cells := 1, slots := 6, locals := 123 }) (va_Pc [.ref h0, .float x, .ref qo] (fun U => xOK U ∧ xN U ∧ U.heap.size = zz ∧ va_P D vwCl [(h0, .inr (1, [.ref hn, .ref hd, .ref hq, .int (b2i go), .int mv])), (hn, .inl (cZ, 165, .inl (fun j => b2i (nb j)))), (hd, .inl (cD, 165, .inr (.inr (.inr (.inl v))))), (hq, .inl (cI, 12, .inl (fun j => nI (ln j)))), (qo, .inl (cJ, 1, .inr (.inl oL)))] U.heap ∧ va_K D vwCl (TYL cZ cD cI cJ) U ∧ va_D (fun _ => True) [(h0, .inr (1, [.ref hn, .ref hd, .ref hq, .int (b2i go), .int mv])), (hn, .inl (cZ, 165, .inl (fun j => b2i (nb j)))), (hd, .inl (cD, 165, .inr (.inr (.inr (.inl v))))), (hq, .inl (cI, 12, .inl (fun j => nI (ln j)))), (qo, .inl (cJ, 1, .inr (.inl oL)))])) (wr_Qi (fun r => r = nI 0) (fun H => va_P D vwCl [(h0, .inr (1, [.ref hn, .ref hd, .ref hq, .int (b2i go), .int mv])), (hn, .inl (cZ, 165, .inl (fun j => b2i (((up nb (162 + 1) true)) j)))), (hd, .inl (cD, 165, .inr (.inr (.inr (.inl ((up v (162 + 1) (FP.f2d x)))))))), (hq, .inl (cI, 12, .inl (fun j => nI (ln j)))), (qo, .inl (cJ, 1, .inr (.inl (up oL 0 (Int32.toInt64 (nI (gr (up nb (162 + 1) true) (up v (162 + 1) (FP.f2d x)) ln 1 4)))))))] H) (va_A [(h0, .inr (1, [.ref hn, .ref hd, .ref hq, .int (b2i go), .int mv])), (hn, .inl (cZ, 165, .inl (fun j => b2i (nb j)))), (hd, .inl (cD, 165, .inr (.inr (.inr (.inl v))))), (hq, .inl (cI, 12, .inl (fun j => nI (ln j)))), (qo, .inl (cJ, 1, .inr (.inl oL)))] zz)) 1 6 (va_A [(h0, .inr (1, [.ref hn, .ref hd, .ref hq, .int (b2i go), .int mv])), (hn, .inl (cZ, 165, .inl (fun j => b2i (nb j)))), (hd, .inl (cD, 165, .inr (.inr (.inr (.inl v))))), (hq, .inl (cI, 12, .inl (fun j => nI (ln j)))), (qo, .inl (cJ, 1, .inr (.inl oL)))] zz) := by
  refine met_of_vx (vx_ofWH (cc := cL_probeWind) (maxL := 4) (ret := some .int) (hh := [(0, 9, 12, 13)]) (by decide) rfl ?_)
  intro p e s m args below meth c s₁ B hml hv
  obtain ⟨rfl, hX, hN, hsz_, hP, hK, hD0⟩ := hv
  have hx := B.exec
  have hb := B.bytes
  have hr := B.returns
  have hts := atoms_spec (ws := wsL_probeWind) B.pre
  have hown : s.vm.findClass RL = some m.cls := findClass_of_methodNamed B.named
  have hlocks := B.notSynchronized
  have htab := vx_table (x := yL_probeWind) (hh := [(0, 9, 12, 13)]) B (hts _ List.mem_cons_self)
  subst hsz_
  have hD := hD0.self (sz := s.heap.size)
  generalize hAe : va_A [(h0, .inr (1, [.ref hn, .ref hd, .ref hq, .int (b2i go), .int mv])), (hn, .inl (cZ, 165, .inl (fun j => b2i (nb j)))), (hd, .inl (cD, 165, .inr (.inr (.inr (.inl v))))), (hq, .inl (cI, 12, .inl (fun j => nI (ln j)))), (qo, .inl (cJ, 1, .inr (.inl oL)))] s.heap.size = A at hD ⊢
  have hA : ∀ q : Nat, s.heap.size ≤ q → A q := fun q h => by rw [← hAe]; exact Or.inr h
  have hS : va_S A s.heap s.heap [] := va_S.rf
  have hl := lv_entry ([.ref h0, .float x, .ref qo]) (n := 4) (Nat.le_of_ble_eq_true rfl)
  rw [lg_entry_eq]
  generalize (lg_sl ([.ref h0, .float x, .ref qo]) ++ List.replicate (4 - (lg_sl ([.ref h0, .float x, .ref qo])).length) Slot.unset).toArray = ls at hl ⊢
  have hl : lv_has ls 4 [(0, .ref h0), (1, .float x), (2, .ref qo)] := hl
  refine lv_aload_n hx hb dL_probeWind_0 rfl (lv_at hl 2 rfl) ?_
  refine lv_iconst (v := nI 0) hx hb dL_probeWind_1 (by decide) ?_
  refine lv_aload_n hx hb dL_probeWind_2 rfl (lv_at hl 0 rfl) ?_
  refine lv_fload_n hx hb dL_probeWind_3 rfl (lv_at hl 1 rfl) ?_
  have hPc : va_P D vwCl (WB h0 hn hd hq cZ cD cI nb v ln go mv) s.heap := hP.sub [0, 1, 2, 3] rfl
  have hDc : va_D A (WB h0 hn hd hq cZ cD cI nb v ln go mv) := hD.sub [0, 1, 2, 3] (by decide) rfl
  have hKc : va_K D vwCl (TY cZ cD cI) s := hK.sub [0, 1, 2] rfl
  have hFc := va_free (wc := WB h0 hn hd hq cZ cD cI nb v ln go mv) hD hS hA [0, 1, 2, 3] rfl
  refine wr_calli (va_runV (As := [.float x]) (rest := [.int (nI 0), .ref qo]) ⟨hx, hb, hml, hown, hts⟩ (c_X0_probeWind l D h0 hn hd hq cZ cD cI nb v ln go mv hln hl0 s.heap.size x hlv) (cwV 1 hts gL_probeWind_X0_probeWind rfl rfl rfl (by decide +kernel) ⟨Nat.le_of_ble_eq_true rfl, Nat.le_of_ble_eq_true rfl⟩) ⟨fun a U g mk q => ⟨q.1, xOK_call q.2.1 g mk a, q.2.2.1, q.2.2.2.1, va_K.moved (u := U) (U := U.calling g mk a) (Vm.Alike.refl U.vm) q.2.2.2.2.1, q.2.2.2.2.2⟩, va_recv hKc hPc (ci := 1) (q0 := 0) rfl rfl, fun U hU hW => ⟨rfl, xOK_at hX hU hW, by rw [hU], by rw [hU]; exact hPc, va_K.moved hW.alike hKc, hDc.weaken (fun _ _ _ _ => trivial)⟩⟩ rfl rfl hl.1 rfl (lv_room (Nat.le_of_ble_eq_true rfl)) dL_probeWind_4 ⟨Nat.le_of_ble_eq_true rfl, Nat.le_of_ble_eq_true rfl⟩) hS hFc (fun r_1 H locs hr_1 hP1 hz1 hk1 hS => ?_)
  subst hr_1
  obtain ⟨hP, -⟩ := va_join (wr := [(qo, .inl (cJ, 1, .inr (.inl oL)))]) (w1 := WB h0 hn hd hq cZ cD cI (up nb (162 + 1) true) (up v (162 + 1) (FP.f2d x)) ln go mv) hP hD [0, 1, 2, 3] [4] rfl rfl (by decide) (by decide) hk1 hFc hP1 (va_D_same (ws := WB h0 hn hd hq cZ cD cI nb v ln go mv) rfl (hDc.self (sz := s.heap.size)))
  have hP : va_P D vwCl [(h0, .inr (1, [.ref hn, .ref hd, .ref hq, .int (b2i go), .int mv])), (hn, .inl (cZ, 165, .inl (fun j => b2i (((up nb (162 + 1) true)) j)))), (hd, .inl (cD, 165, .inr (.inr (.inr (.inl ((up v (162 + 1) (FP.f2d x)))))))), (hq, .inl (cI, 12, .inl (fun j => nI (ln j)))), (qo, .inl (cJ, 1, .inr (.inl oL)))] H := hP.sub [1, 2, 3, 4, 0] rfl
  have hD : va_D A [(h0, .inr (1, [.ref hn, .ref hd, .ref hq, .int (b2i go), .int mv])), (hn, .inl (cZ, 165, .inl (fun j => b2i (((up nb (162 + 1) true)) j)))), (hd, .inl (cD, 165, .inr (.inr (.inr (.inl ((up v (162 + 1) (FP.f2d x)))))))), (hq, .inl (cI, 12, .inl (fun j => nI (ln j)))), (qo, .inl (cJ, 1, .inr (.inl oL)))] := va_D_same (ws := [(h0, .inr (1, [.ref hn, .ref hd, .ref hq, .int (b2i go), .int mv])), (hn, .inl (cZ, 165, .inl (fun j => b2i (nb j)))), (hd, .inl (cD, 165, .inr (.inr (.inr (.inl v))))), (hq, .inl (cI, 12, .inl (fun j => nI (ln j)))), (qo, .inl (cJ, 1, .inr (.inl oL)))]) rfl hD
  refine lv_i2l hx hb dL_probeWind_7 rfl ?_
  refine kn_last hx hb hK hP hD hS 4 3 rfl rfl (by omega) (by decide) dL_probeWind_8 (fun H locs hP hD hS => ?_)
  have hP : va_P D vwCl ([(h0, .inr (1, [.ref hn, .ref hd, .ref hq, .int (b2i go), .int mv])), (hn, .inl (cZ, 165, .inl (fun j => b2i (((up nb (162 + 1) true)) j)))), (hd, .inl (cD, 165, .inr (.inr (.inr (.inl ((up v (162 + 1) (FP.f2d x)))))))), (hq, .inl (cI, 12, .inl (fun j => nI (ln j)))), (qo, .inl (cJ, 1, .inr (.inl (up oL 0 (Int32.toInt64 (nI (gr (up nb (162 + 1) true) (up v (162 + 1) (FP.f2d x)) ln 1 4)))))))]) H := hP
  have hD : va_D A ([(h0, .inr (1, [.ref hn, .ref hd, .ref hq, .int (b2i go), .int mv])), (hn, .inl (cZ, 165, .inl (fun j => b2i (((up nb (162 + 1) true)) j)))), (hd, .inl (cD, 165, .inr (.inr (.inr (.inl ((up v (162 + 1) (FP.f2d x)))))))), (hq, .inl (cI, 12, .inl (fun j => nI (ln j)))), (qo, .inl (cJ, 1, .inr (.inl (up oL 0 (Int32.toInt64 (nI (gr (up nb (162 + 1) true) (up v (162 + 1) (FP.f2d x)) ln 1 4)))))))]) := hD
  refine lv_goto (tgt := 15) hx hb dL_probeWind_9 (by decide) ?_
  refine lv_iconst (v := nI 0) hx hb dL_probeWind_15 (by decide) ?_
  refine vx_ret ?_
  refine W.widen (k := 1) (n := 6) (Nat.le_of_ble_eq_true rfl) (Nat.le_of_ble_eq_true rfl) ?_
  exact W.iret (v := nI 0) hx hb hr (fun t9 ht9 hW9 => ⟨⟨_, rfl, rfl, by rw [ht9]; exact hP⟩, hS.F ht9⟩) hS.2.2 dL_probeWind_16
set_option maxHeartbeats 4000000 in
set_option maxRecDepth 100000 in
theorem w_probeWind_bad (l : Launch) (D : va_G) (h0 hn hd hq qo : Nat) (cZ cD cI cJ : ClassId) (nb : Nat → Bool) (v : Nat → UInt64) (ln : Nat → Nat) (go : Bool) (mv : Int32) (oL : Nat → Int64) (hln : ∀ j, ln j ≤ 12) (hl0 : l.stackTraces = false) (zz : Nat) (y : UInt32) (hbad : ¬ (wnd y = true)) : Met l yL_probeWind wsL_probeWind ({ frames := 8, cells := 1, slots := 6, locals := 123 }) (va_Pc [.ref h0, .float y, .ref qo] (fun U => xOK U ∧ xN U ∧ U.heap.size = zz ∧ va_P D vwCl [(h0, .inr (1, [.ref hn, .ref hd, .ref hq, .int (b2i go), .int mv])), (hn, .inl (cZ, 165, .inl (fun j => b2i (nb j)))), (hd, .inl (cD, 165, .inr (.inr (.inr (.inl v))))), (hq, .inl (cI, 12, .inl (fun j => nI (ln j)))), (qo, .inl (cJ, 1, .inr (.inl oL)))] U.heap ∧ va_K D vwCl (TYL cZ cD cI cJ) U ∧ va_D (fun _ => True) [(h0, .inr (1, [.ref hn, .ref hd, .ref hq, .int (b2i go), .int mv])), (hn, .inl (cZ, 165, .inl (fun j => b2i (nb j)))), (hd, .inl (cD, 165, .inr (.inr (.inr (.inl v))))), (hq, .inl (cI, 12, .inl (fun j => nI (ln j)))), (qo, .inl (cJ, 1, .inr (.inl oL)))])) (wr_Qi (fun r => r = nI 1) (fun H => va_P D vwCl [(h0, .inr (1, [.ref hn, .ref hd, .ref hq, .int (b2i go), .int mv])), (hn, .inl (cZ, 165, .inl (fun j => b2i (nb j)))), (hd, .inl (cD, 165, .inr (.inr (.inr (.inl v))))), (hq, .inl (cI, 12, .inl (fun j => nI (ln j)))), (qo, .inl (cJ, 1, .inr (.inl oL)))] H) (va_A [(h0, .inr (1, [.ref hn, .ref hd, .ref hq, .int (b2i go), .int mv])), (hn, .inl (cZ, 165, .inl (fun j => b2i (nb j)))), (hd, .inl (cD, 165, .inr (.inr (.inr (.inl v))))), (hq, .inl (cI, 12, .inl (fun j => nI (ln j)))), (qo, .inl (cJ, 1, .inr (.inl oL)))] zz)) 1 6 (va_A [(h0, .inr (1, [.ref hn, .ref hd, .ref hq, .int (b2i go), .int mv])), (hn, .inl (cZ, 165, .inl (fun j => b2i (nb j)))), (hd, .inl (cD, 165, .inr (.inr (.inr (.inl v))))), (hq, .inl (cI, 12, .inl (fun j => nI (ln j)))), (qo, .inl (cJ, 1, .inr (.inl oL)))] zz) := by
  refine met_of_vx (vx_ofWH (cc := cL_probeWind) (maxL := 4) (ret := some .int) (hh := [(0, 9, 12, 13)]) (by decide) rfl ?_)
  intro p e s m args below meth c s₁ B hml hv
  obtain ⟨rfl, hX, hN, hsz_, hP, hK, hD0⟩ := hv
  have hx := B.exec
  have hb := B.bytes
  have hr := B.returns
  have hts := atoms_spec (ws := wsL_probeWind) B.pre
  have hown : s.vm.findClass RL = some m.cls := findClass_of_methodNamed B.named
  have hlocks := B.notSynchronized
  have htab := vx_table (x := yL_probeWind) (hh := [(0, 9, 12, 13)]) B (hts _ List.mem_cons_self)
  subst hsz_
  have hD := hD0.self (sz := s.heap.size)
  generalize hAe : va_A [(h0, .inr (1, [.ref hn, .ref hd, .ref hq, .int (b2i go), .int mv])), (hn, .inl (cZ, 165, .inl (fun j => b2i (nb j)))), (hd, .inl (cD, 165, .inr (.inr (.inr (.inl v))))), (hq, .inl (cI, 12, .inl (fun j => nI (ln j)))), (qo, .inl (cJ, 1, .inr (.inl oL)))] s.heap.size = A at hD ⊢
  have hA : ∀ q : Nat, s.heap.size ≤ q → A q := fun q h => by rw [← hAe]; exact Or.inr h
  have hS : va_S A s.heap s.heap [] := va_S.rf
  have hl := lv_entry ([.ref h0, .float y, .ref qo]) (n := 4) (Nat.le_of_ble_eq_true rfl)
  rw [lg_entry_eq]
  generalize (lg_sl ([.ref h0, .float y, .ref qo]) ++ List.replicate (4 - (lg_sl ([.ref h0, .float y, .ref qo])).length) Slot.unset).toArray = ls at hl ⊢
  have hl : lv_has ls 4 [(0, .ref h0), (1, .float y), (2, .ref qo)] := hl
  refine lv_aload_n hx hb dL_probeWind_0 rfl (lv_at hl 2 rfl) ?_
  refine lv_iconst (v := nI 0) hx hb dL_probeWind_1 (by decide) ?_
  refine lv_aload_n hx hb dL_probeWind_2 rfl (lv_at hl 0 rfl) ?_
  refine lv_fload_n hx hb dL_probeWind_3 rfl (lv_at hl 1 rfl) ?_
  have hPc : va_P D vwCl (WB h0 hn hd hq cZ cD cI nb v ln go mv) s.heap := hP.sub [0, 1, 2, 3] rfl
  have hDc : va_D A (WB h0 hn hd hq cZ cD cI nb v ln go mv) := hD.sub [0, 1, 2, 3] (by decide) rfl
  have hKc : va_K D vwCl (TY cZ cD cI) s := hK.sub [0, 1, 2] rfl
  refine kv_never (vx_runV (As := [.float y]) (rest := [.int (nI 0), .ref qo]) ⟨hx, hb, hml, hown, hts⟩ (c_X0_probeWind_bad l D h0 hn hd hq cZ cD cI nb v ln go mv hln hl0 y hbad) (cwV 1 hts gL_probeWind_X0_probeWind rfl rfl rfl (by decide +kernel) ⟨Nat.le_of_ble_eq_true rfl, Nat.le_of_ble_eq_true rfl⟩) ⟨fun a U g mk q => ⟨q.1, xOK_call q.2.1 g mk a, q.2.2.1, va_K.moved (u := U) (U := U.calling g mk a) (Vm.Alike.refl U.vm) q.2.2.2⟩, va_recv hKc hPc (ci := 1) (q0 := 0) rfl rfl, fun U hU hW => ⟨rfl, xOK_at hX hU hW, by rw [hU]; exact hPc, va_K.moved hW.alike hKc⟩⟩ rfl rfl hl.1 rfl (lv_room (Nat.le_of_ble_eq_true rfl)) dL_probeWind_4 ⟨Nat.le_of_ble_eq_true rfl, Nat.le_of_ble_eq_true rfl⟩) (fun E9 ce q9 H hE h1 h2 h3 h4 h5 => ?_)
  subst hE
  have hP : va_P D vwCl [(h0, .inr (1, [.ref hn, .ref hd, .ref hq, .int (b2i go), .int mv])), (hn, .inl (cZ, 165, .inl (fun j => b2i (nb j)))), (hd, .inl (cD, 165, .inr (.inr (.inr (.inl v))))), (hq, .inl (cI, 12, .inl (fun j => nI (ln j)))), (qo, .inl (cJ, 1, .inr (.inl oL)))] H := hP.kept (fun k q hk => h2 q.1 (vx_lt hP hk))
  have hS : va_S A s.heap H [] := ⟨h1, fun q hq _ => h2 q hq, fun q hq => absurd hq List.not_mem_nil⟩
  refine vx_catch (E := IAE) (name := IAE) hown [] ⟨0, 9, 12, 13⟩ [] htab (fun z hz => absurd hz List.not_mem_nil) (by decide) (by decide) (hts (.classLink RL 13 IAE) (by decide +kernel)) (xC.word hX.2.2.2.1) h3 h4 h5 ?_
  show W p l e _ s m _ below meth c H [] _ _ _ (F0 m 12 ls [.ref q9])
  refine lv_astore_n (lv' := [(3, .ref q9), (0, .ref h0), (1, .float y), (2, .ref qo)]) hx hb dL_probeWind_12 rfl hl (by decide) rfl (fun ls hl => ?_)
  refine lv_iconst (v := nI 1) hx hb dL_probeWind_13 (by decide) ?_
  refine vx_ret ?_
  refine W.widen (k := 1) (n := 6) (Nat.le_of_ble_eq_true rfl) (Nat.le_of_ble_eq_true rfl) ?_
  exact W.iret (v := nI 1) hx hb hr (fun t9 ht9 hW9 => ⟨⟨_, rfl, rfl, by rw [ht9]; exact hP⟩, hS.F ht9⟩) hS.2.2 dL_probeWind_14
set_option maxHeartbeats 4000000 in
set_option maxRecDepth 100000 in
theorem w_probeOut (l : Launch) (D : va_G) (h0 hn hd hq qo : Nat) (cZ cD cI cJ : ClassId) (nb : Nat → Bool) (v : Nat → UInt64) (ln : Nat → Nat) (go : Bool) (mv : Int32) (oL : Nat → Int64) (hln : ∀ j, ln j ≤ 12) (hl0 : l.stackTraces = false) (zz : Nat) (w : Nat) (hw : w < 2) : Met l yL_probeOut wsL_probeOut ({ frames := 8, cells := 1, slots := 6, locals := 123 }) (va_Pc [.ref h0, .int (nI w), .ref qo] (fun U => xOK U ∧ xN U ∧ U.heap.size = zz ∧ va_P D vwCl [(h0, .inr (1, [.ref hn, .ref hd, .ref hq, .int (b2i go), .int mv])), (hn, .inl (cZ, 165, .inl (fun j => b2i (nb j)))), (hd, .inl (cD, 165, .inr (.inr (.inr (.inl v))))), (hq, .inl (cI, 12, .inl (fun j => nI (ln j)))), (qo, .inl (cJ, 1, .inr (.inl oL)))] U.heap ∧ va_K D vwCl (TYL cZ cD cI cJ) U ∧ va_D (fun _ => True) [(h0, .inr (1, [.ref hn, .ref hd, .ref hq, .int (b2i go), .int mv])), (hn, .inl (cZ, 165, .inl (fun j => b2i (nb j)))), (hd, .inl (cD, 165, .inr (.inr (.inr (.inl v))))), (hq, .inl (cI, 12, .inl (fun j => nI (ln j)))), (qo, .inl (cJ, 1, .inr (.inl oL)))])) (wr_Qi (fun r => r = nI 0) (fun H => va_P D vwCl [(h0, .inr (1, [.ref hn, .ref hd, .ref hq, .int (b2i go), .int mv])), (hn, .inl (cZ, 165, .inl (fun j => b2i (((up nb (162 + w) false)) j)))), (hd, .inl (cD, 165, .inr (.inr (.inr (.inl v))))), (hq, .inl (cI, 12, .inl (fun j => nI (ln j)))), (qo, .inl (cJ, 1, .inr (.inl (up oL 0 (Int32.toInt64 (nI (gr (up nb (162 + w) false) v ln w 5)))))))] H) (va_A [(h0, .inr (1, [.ref hn, .ref hd, .ref hq, .int (b2i go), .int mv])), (hn, .inl (cZ, 165, .inl (fun j => b2i (nb j)))), (hd, .inl (cD, 165, .inr (.inr (.inr (.inl v))))), (hq, .inl (cI, 12, .inl (fun j => nI (ln j)))), (qo, .inl (cJ, 1, .inr (.inl oL)))] zz)) 1 6 (va_A [(h0, .inr (1, [.ref hn, .ref hd, .ref hq, .int (b2i go), .int mv])), (hn, .inl (cZ, 165, .inl (fun j => b2i (nb j)))), (hd, .inl (cD, 165, .inr (.inr (.inr (.inl v))))), (hq, .inl (cI, 12, .inl (fun j => nI (ln j)))), (qo, .inl (cJ, 1, .inr (.inl oL)))] zz) := by
  refine met_of_vx (vx_ofWH (cc := cL_probeOut) (maxL := 4) (ret := some .int) (hh := [(0, 9, 12, 13)]) (by decide) rfl ?_)
  intro p e s m args below meth c s₁ B hml hv
  obtain ⟨rfl, hX, hN, hsz_, hP, hK, hD0⟩ := hv
  have hx := B.exec
  have hb := B.bytes
  have hr := B.returns
  have hts := atoms_spec (ws := wsL_probeOut) B.pre
  have hown : s.vm.findClass RL = some m.cls := findClass_of_methodNamed B.named
  have hlocks := B.notSynchronized
  have htab := vx_table (x := yL_probeOut) (hh := [(0, 9, 12, 13)]) B (hts _ List.mem_cons_self)
  subst hsz_
  have hD := hD0.self (sz := s.heap.size)
  generalize hAe : va_A [(h0, .inr (1, [.ref hn, .ref hd, .ref hq, .int (b2i go), .int mv])), (hn, .inl (cZ, 165, .inl (fun j => b2i (nb j)))), (hd, .inl (cD, 165, .inr (.inr (.inr (.inl v))))), (hq, .inl (cI, 12, .inl (fun j => nI (ln j)))), (qo, .inl (cJ, 1, .inr (.inl oL)))] s.heap.size = A at hD ⊢
  have hA : ∀ q : Nat, s.heap.size ≤ q → A q := fun q h => by rw [← hAe]; exact Or.inr h
  have hS : va_S A s.heap s.heap [] := va_S.rf
  have hl := lv_entry ([.ref h0, .int (nI w), .ref qo]) (n := 4) (Nat.le_of_ble_eq_true rfl)
  rw [lg_entry_eq]
  generalize (lg_sl ([.ref h0, .int (nI w), .ref qo]) ++ List.replicate (4 - (lg_sl ([.ref h0, .int (nI w), .ref qo])).length) Slot.unset).toArray = ls at hl ⊢
  have hl : lv_has ls 4 [(0, .ref h0), (1, .int (nI w)), (2, .ref qo)] := hl
  refine lv_aload_n hx hb dL_probeOut_0 rfl (lv_at hl 2 rfl) ?_
  refine lv_iconst (v := nI 0) hx hb dL_probeOut_1 (by decide) ?_
  refine lv_aload_n hx hb dL_probeOut_2 rfl (lv_at hl 0 rfl) ?_
  refine lv_iload_n hx hb dL_probeOut_3 rfl (lv_at hl 1 rfl) ?_
  have hPc : va_P D vwCl (WB h0 hn hd hq cZ cD cI nb v ln go mv) s.heap := hP.sub [0, 1, 2, 3] rfl
  have hDc : va_D A (WB h0 hn hd hq cZ cD cI nb v ln go mv) := hD.sub [0, 1, 2, 3] (by decide) rfl
  have hKc : va_K D vwCl (TY cZ cD cI) s := hK.sub [0, 1, 2] rfl
  have hFc := va_free (wc := WB h0 hn hd hq cZ cD cI nb v ln go mv) hD hS hA [0, 1, 2, 3] rfl
  refine wr_calli (va_runV (As := [.int (nI w)]) (rest := [.int (nI 0), .ref qo]) ⟨hx, hb, hml, hown, hts⟩ (c_X0_probeOut l D h0 hn hd hq cZ cD cI nb v ln go mv hln hl0 s.heap.size w hw) (cwV 1 hts gL_probeOut_X0_probeOut rfl rfl rfl (by decide +kernel) ⟨Nat.le_of_ble_eq_true rfl, Nat.le_of_ble_eq_true rfl⟩) ⟨fun a U g mk q => ⟨q.1, xOK_call q.2.1 g mk a, q.2.2.1, q.2.2.2.1, va_K.moved (u := U) (U := U.calling g mk a) (Vm.Alike.refl U.vm) q.2.2.2.2.1, q.2.2.2.2.2⟩, va_recv hKc hPc (ci := 1) (q0 := 0) rfl rfl, fun U hU hW => ⟨rfl, xOK_at hX hU hW, by rw [hU], by rw [hU]; exact hPc, va_K.moved hW.alike hKc, hDc.weaken (fun _ _ _ _ => trivial)⟩⟩ rfl rfl hl.1 rfl (lv_room (Nat.le_of_ble_eq_true rfl)) dL_probeOut_4 ⟨Nat.le_of_ble_eq_true rfl, Nat.le_of_ble_eq_true rfl⟩) hS hFc (fun r_1 H locs hr_1 hP1 hz1 hk1 hS => ?_)
  subst hr_1
  obtain ⟨hP, -⟩ := va_join (wr := [(qo, .inl (cJ, 1, .inr (.inl oL)))]) (w1 := WB h0 hn hd hq cZ cD cI (up nb (162 + w) false) v ln go mv) hP hD [0, 1, 2, 3] [4] rfl rfl (by decide) (by decide) hk1 hFc hP1 (va_D_same (ws := WB h0 hn hd hq cZ cD cI nb v ln go mv) rfl (hDc.self (sz := s.heap.size)))
  have hP : va_P D vwCl [(h0, .inr (1, [.ref hn, .ref hd, .ref hq, .int (b2i go), .int mv])), (hn, .inl (cZ, 165, .inl (fun j => b2i (((up nb (162 + w) false)) j)))), (hd, .inl (cD, 165, .inr (.inr (.inr (.inl v))))), (hq, .inl (cI, 12, .inl (fun j => nI (ln j)))), (qo, .inl (cJ, 1, .inr (.inl oL)))] H := hP.sub [1, 2, 3, 4, 0] rfl
  have hD : va_D A [(h0, .inr (1, [.ref hn, .ref hd, .ref hq, .int (b2i go), .int mv])), (hn, .inl (cZ, 165, .inl (fun j => b2i (((up nb (162 + w) false)) j)))), (hd, .inl (cD, 165, .inr (.inr (.inr (.inl v))))), (hq, .inl (cI, 12, .inl (fun j => nI (ln j)))), (qo, .inl (cJ, 1, .inr (.inl oL)))] := va_D_same (ws := [(h0, .inr (1, [.ref hn, .ref hd, .ref hq, .int (b2i go), .int mv])), (hn, .inl (cZ, 165, .inl (fun j => b2i (nb j)))), (hd, .inl (cD, 165, .inr (.inr (.inr (.inl v))))), (hq, .inl (cI, 12, .inl (fun j => nI (ln j)))), (qo, .inl (cJ, 1, .inr (.inl oL)))]) rfl hD
  refine lv_i2l hx hb dL_probeOut_7 rfl ?_
  refine kn_last hx hb hK hP hD hS 4 3 rfl rfl (by omega) (by decide) dL_probeOut_8 (fun H locs hP hD hS => ?_)
  have hP : va_P D vwCl ([(h0, .inr (1, [.ref hn, .ref hd, .ref hq, .int (b2i go), .int mv])), (hn, .inl (cZ, 165, .inl (fun j => b2i (((up nb (162 + w) false)) j)))), (hd, .inl (cD, 165, .inr (.inr (.inr (.inl v))))), (hq, .inl (cI, 12, .inl (fun j => nI (ln j)))), (qo, .inl (cJ, 1, .inr (.inl (up oL 0 (Int32.toInt64 (nI (gr (up nb (162 + w) false) v ln w 5)))))))]) H := hP
  have hD : va_D A ([(h0, .inr (1, [.ref hn, .ref hd, .ref hq, .int (b2i go), .int mv])), (hn, .inl (cZ, 165, .inl (fun j => b2i (((up nb (162 + w) false)) j)))), (hd, .inl (cD, 165, .inr (.inr (.inr (.inl v))))), (hq, .inl (cI, 12, .inl (fun j => nI (ln j)))), (qo, .inl (cJ, 1, .inr (.inl (up oL 0 (Int32.toInt64 (nI (gr (up nb (162 + w) false) v ln w 5)))))))]) := hD
  refine lv_goto (tgt := 15) hx hb dL_probeOut_9 (by decide) ?_
  refine lv_iconst (v := nI 0) hx hb dL_probeOut_15 (by decide) ?_
  refine vx_ret ?_
  refine W.widen (k := 1) (n := 6) (Nat.le_of_ble_eq_true rfl) (Nat.le_of_ble_eq_true rfl) ?_
  exact W.iret (v := nI 0) hx hb hr (fun t9 ht9 hW9 => ⟨⟨_, rfl, rfl, by rw [ht9]; exact hP⟩, hS.F ht9⟩) hS.2.2 dL_probeOut_16
set_option maxHeartbeats 4000000 in
set_option maxRecDepth 100000 in
theorem w_probeOut_bad (l : Launch) (D : va_G) (h0 hn hd hq qo : Nat) (cZ cD cI cJ : ClassId) (nb : Nat → Bool) (v : Nat → UInt64) (ln : Nat → Nat) (go : Bool) (mv : Int32) (oL : Nat → Int64) (hln : ∀ j, ln j ≤ 12) (hl0 : l.stackTraces = false) (zz : Nat) (x0 : Int32) (hbad : ¬ (InN 2 x0)) : Met l yL_probeOut wsL_probeOut ({ frames := 8, cells := 1, slots := 6, locals := 123 }) (va_Pc [.ref h0, .int x0, .ref qo] (fun U => xOK U ∧ xN U ∧ U.heap.size = zz ∧ va_P D vwCl [(h0, .inr (1, [.ref hn, .ref hd, .ref hq, .int (b2i go), .int mv])), (hn, .inl (cZ, 165, .inl (fun j => b2i (nb j)))), (hd, .inl (cD, 165, .inr (.inr (.inr (.inl v))))), (hq, .inl (cI, 12, .inl (fun j => nI (ln j)))), (qo, .inl (cJ, 1, .inr (.inl oL)))] U.heap ∧ va_K D vwCl (TYL cZ cD cI cJ) U ∧ va_D (fun _ => True) [(h0, .inr (1, [.ref hn, .ref hd, .ref hq, .int (b2i go), .int mv])), (hn, .inl (cZ, 165, .inl (fun j => b2i (nb j)))), (hd, .inl (cD, 165, .inr (.inr (.inr (.inl v))))), (hq, .inl (cI, 12, .inl (fun j => nI (ln j)))), (qo, .inl (cJ, 1, .inr (.inl oL)))])) (wr_Qi (fun r => r = nI 1) (fun H => va_P D vwCl [(h0, .inr (1, [.ref hn, .ref hd, .ref hq, .int (b2i go), .int mv])), (hn, .inl (cZ, 165, .inl (fun j => b2i (nb j)))), (hd, .inl (cD, 165, .inr (.inr (.inr (.inl v))))), (hq, .inl (cI, 12, .inl (fun j => nI (ln j)))), (qo, .inl (cJ, 1, .inr (.inl oL)))] H) (va_A [(h0, .inr (1, [.ref hn, .ref hd, .ref hq, .int (b2i go), .int mv])), (hn, .inl (cZ, 165, .inl (fun j => b2i (nb j)))), (hd, .inl (cD, 165, .inr (.inr (.inr (.inl v))))), (hq, .inl (cI, 12, .inl (fun j => nI (ln j)))), (qo, .inl (cJ, 1, .inr (.inl oL)))] zz)) 1 6 (va_A [(h0, .inr (1, [.ref hn, .ref hd, .ref hq, .int (b2i go), .int mv])), (hn, .inl (cZ, 165, .inl (fun j => b2i (nb j)))), (hd, .inl (cD, 165, .inr (.inr (.inr (.inl v))))), (hq, .inl (cI, 12, .inl (fun j => nI (ln j)))), (qo, .inl (cJ, 1, .inr (.inl oL)))] zz) := by
  refine met_of_vx (vx_ofWH (cc := cL_probeOut) (maxL := 4) (ret := some .int) (hh := [(0, 9, 12, 13)]) (by decide) rfl ?_)
  intro p e s m args below meth c s₁ B hml hv
  obtain ⟨rfl, hX, hN, hsz_, hP, hK, hD0⟩ := hv
  have hx := B.exec
  have hb := B.bytes
  have hr := B.returns
  have hts := atoms_spec (ws := wsL_probeOut) B.pre
  have hown : s.vm.findClass RL = some m.cls := findClass_of_methodNamed B.named
  have hlocks := B.notSynchronized
  have htab := vx_table (x := yL_probeOut) (hh := [(0, 9, 12, 13)]) B (hts _ List.mem_cons_self)
  subst hsz_
  have hD := hD0.self (sz := s.heap.size)
  generalize hAe : va_A [(h0, .inr (1, [.ref hn, .ref hd, .ref hq, .int (b2i go), .int mv])), (hn, .inl (cZ, 165, .inl (fun j => b2i (nb j)))), (hd, .inl (cD, 165, .inr (.inr (.inr (.inl v))))), (hq, .inl (cI, 12, .inl (fun j => nI (ln j)))), (qo, .inl (cJ, 1, .inr (.inl oL)))] s.heap.size = A at hD ⊢
  have hA : ∀ q : Nat, s.heap.size ≤ q → A q := fun q h => by rw [← hAe]; exact Or.inr h
  have hS : va_S A s.heap s.heap [] := va_S.rf
  have hl := lv_entry ([.ref h0, .int x0, .ref qo]) (n := 4) (Nat.le_of_ble_eq_true rfl)
  rw [lg_entry_eq]
  generalize (lg_sl ([.ref h0, .int x0, .ref qo]) ++ List.replicate (4 - (lg_sl ([.ref h0, .int x0, .ref qo])).length) Slot.unset).toArray = ls at hl ⊢
  have hl : lv_has ls 4 [(0, .ref h0), (1, .int x0), (2, .ref qo)] := hl
  refine lv_aload_n hx hb dL_probeOut_0 rfl (lv_at hl 2 rfl) ?_
  refine lv_iconst (v := nI 0) hx hb dL_probeOut_1 (by decide) ?_
  refine lv_aload_n hx hb dL_probeOut_2 rfl (lv_at hl 0 rfl) ?_
  refine lv_iload_n hx hb dL_probeOut_3 rfl (lv_at hl 1 rfl) ?_
  have hPc : va_P D vwCl (WB h0 hn hd hq cZ cD cI nb v ln go mv) s.heap := hP.sub [0, 1, 2, 3] rfl
  have hDc : va_D A (WB h0 hn hd hq cZ cD cI nb v ln go mv) := hD.sub [0, 1, 2, 3] (by decide) rfl
  have hKc : va_K D vwCl (TY cZ cD cI) s := hK.sub [0, 1, 2] rfl
  refine kv_never (vx_runV (As := [.int x0]) (rest := [.int (nI 0), .ref qo]) ⟨hx, hb, hml, hown, hts⟩ (c_X0_probeOut_bad l D h0 hn hd hq cZ cD cI nb v ln go mv hln hl0 x0 hbad) (cwV 1 hts gL_probeOut_X0_probeOut rfl rfl rfl (by decide +kernel) ⟨Nat.le_of_ble_eq_true rfl, Nat.le_of_ble_eq_true rfl⟩) ⟨fun a U g mk q => ⟨q.1, xOK_call q.2.1 g mk a, q.2.2.1, va_K.moved (u := U) (U := U.calling g mk a) (Vm.Alike.refl U.vm) q.2.2.2⟩, va_recv hKc hPc (ci := 1) (q0 := 0) rfl rfl, fun U hU hW => ⟨rfl, xOK_at hX hU hW, by rw [hU]; exact hPc, va_K.moved hW.alike hKc⟩⟩ rfl rfl hl.1 rfl (lv_room (Nat.le_of_ble_eq_true rfl)) dL_probeOut_4 ⟨Nat.le_of_ble_eq_true rfl, Nat.le_of_ble_eq_true rfl⟩) (fun E9 ce q9 H hE h1 h2 h3 h4 h5 => ?_)
  subst hE
  have hP : va_P D vwCl [(h0, .inr (1, [.ref hn, .ref hd, .ref hq, .int (b2i go), .int mv])), (hn, .inl (cZ, 165, .inl (fun j => b2i (nb j)))), (hd, .inl (cD, 165, .inr (.inr (.inr (.inl v))))), (hq, .inl (cI, 12, .inl (fun j => nI (ln j)))), (qo, .inl (cJ, 1, .inr (.inl oL)))] H := hP.kept (fun k q hk => h2 q.1 (vx_lt hP hk))
  have hS : va_S A s.heap H [] := ⟨h1, fun q hq _ => h2 q hq, fun q hq => absurd hq List.not_mem_nil⟩
  refine vx_catch (E := IAE) (name := IAE) hown [] ⟨0, 9, 12, 13⟩ [] htab (fun z hz => absurd hz List.not_mem_nil) (by decide) (by decide) (hts (.classLink RL 13 IAE) (by decide +kernel)) (xC.word hX.2.2.2.1) h3 h4 h5 ?_
  show W p l e _ s m _ below meth c H [] _ _ _ (F0 m 12 ls [.ref q9])
  refine lv_astore_n (lv' := [(3, .ref q9), (0, .ref h0), (1, .int x0), (2, .ref qo)]) hx hb dL_probeOut_12 rfl hl (by decide) rfl (fun ls hl => ?_)
  refine lv_iconst (v := nI 1) hx hb dL_probeOut_13 (by decide) ?_
  refine vx_ret ?_
  refine W.widen (k := 1) (n := 6) (Nat.le_of_ble_eq_true rfl) (Nat.le_of_ble_eq_true rfl) ?_
  exact W.iret (v := nI 1) hx hb hr (fun t9 ht9 hW9 => ⟨⟨_, rfl, rfl, by rw [ht9]; exact hP⟩, hS.F ht9⟩) hS.2.2 dL_probeOut_14
set_option maxHeartbeats 4000000 in
set_option maxRecDepth 100000 in
theorem w_run (l : Launch) (D : va_G) (h0 hn hd hq qo : Nat) (cZ cD cI cJ : ClassId) (nb : Nat → Bool) (v : Nat → UInt64) (ln : Nat → Nat) (go : Bool) (mv : Int32) (oL : Nat → Int64) (hln : ∀ j, ln j ≤ 12) (hl0 : l.stackTraces = false) (zz : Nat) (g : Nat) (w : Nat) (k : Nat) (b : Bool) (hg : g < 6) (hw : w < 2) (hk : k < 6) : Met l yL_run wsL_run ({ frames := 8, cells := 3, slots := 18, locals := 128 }) (va_Pc [.ref h0, .int (nI g), .int (nI w), .int (nI k), .int (b2i b), .ref qo] (fun U => xOK U ∧ xN U ∧ U.heap.size = zz ∧ va_P D vwCl [(h0, .inr (1, [.ref hn, .ref hd, .ref hq, .int (b2i go), .int mv])), (hn, .inl (cZ, 165, .inl (fun j => b2i (nb j)))), (hd, .inl (cD, 165, .inr (.inr (.inr (.inl v))))), (hq, .inl (cI, 12, .inl (fun j => nI (ln j)))), (qo, .inl (cJ, 1, .inr (.inl oL)))] U.heap ∧ va_K D vwCl (TYL cZ cD cI cJ) U ∧ va_D (fun _ => True) [(h0, .inr (1, [.ref hn, .ref hd, .ref hq, .int (b2i go), .int mv])), (hn, .inl (cZ, 165, .inl (fun j => b2i (nb j)))), (hd, .inl (cD, 165, .inr (.inr (.inr (.inl v))))), (hq, .inl (cI, 12, .inl (fun j => nI (ln j)))), (qo, .inl (cJ, 1, .inr (.inl oL)))])) (wr_Qi (fun r => r = nI 0) (fun H => va_P D vwCl [(h0, .inr (1, [.ref hn, .ref hd, .ref hq, .int (b2i go), .int mv])), (hn, .inl (cZ, 165, .inl (fun j => b2i (nb j)))), (hd, .inl (cD, 165, .inr (.inr (.inr (.inl v))))), (hq, .inl (cI, 12, .inl (fun j => nI (ln j)))), (qo, .inl (cJ, 1, .inr (.inl (up oL 0 (Int32.toInt64 (nI (rnC nb v ln g w k b)))))))] H) (va_A [(h0, .inr (1, [.ref hn, .ref hd, .ref hq, .int (b2i go), .int mv])), (hn, .inl (cZ, 165, .inl (fun j => b2i (nb j)))), (hd, .inl (cD, 165, .inr (.inr (.inr (.inl v))))), (hq, .inl (cI, 12, .inl (fun j => nI (ln j)))), (qo, .inl (cJ, 1, .inr (.inl oL)))] zz)) 3 18 (va_A [(h0, .inr (1, [.ref hn, .ref hd, .ref hq, .int (b2i go), .int mv])), (hn, .inl (cZ, 165, .inl (fun j => b2i (nb j)))), (hd, .inl (cD, 165, .inr (.inr (.inr (.inl v))))), (hq, .inl (cI, 12, .inl (fun j => nI (ln j)))), (qo, .inl (cJ, 1, .inr (.inl oL)))] zz) := by
  refine met_of_vx (vx_ofWH (cc := cL_run) (maxL := 7) (ret := some .int) (hh := [(0, 14, 17, 13)]) (by decide) rfl ?_)
  intro p e s m args below meth c s₁ B hml hv
  obtain ⟨rfl, hX, hN, hsz_, hP, hK, hD0⟩ := hv
  have hx := B.exec
  have hb := B.bytes
  have hr := B.returns
  have hts := atoms_spec (ws := wsL_run) B.pre
  have hown : s.vm.findClass RL = some m.cls := findClass_of_methodNamed B.named
  have hlocks := B.notSynchronized
  have htab := vx_table (x := yL_run) (hh := [(0, 14, 17, 13)]) B (hts _ List.mem_cons_self)
  subst hsz_
  have hD := hD0.self (sz := s.heap.size)
  generalize hAe : va_A [(h0, .inr (1, [.ref hn, .ref hd, .ref hq, .int (b2i go), .int mv])), (hn, .inl (cZ, 165, .inl (fun j => b2i (nb j)))), (hd, .inl (cD, 165, .inr (.inr (.inr (.inl v))))), (hq, .inl (cI, 12, .inl (fun j => nI (ln j)))), (qo, .inl (cJ, 1, .inr (.inl oL)))] s.heap.size = A at hD ⊢
  have hA : ∀ q : Nat, s.heap.size ≤ q → A q := fun q h => by rw [← hAe]; exact Or.inr h
  have hS : va_S A s.heap s.heap [] := va_S.rf
  have hl := lv_entry ([.ref h0, .int (nI g), .int (nI w), .int (nI k), .int (b2i b), .ref qo]) (n := 7) (Nat.le_of_ble_eq_true rfl)
  rw [lg_entry_eq]
  generalize (lg_sl ([.ref h0, .int (nI g), .int (nI w), .int (nI k), .int (b2i b), .ref qo]) ++ List.replicate (7 - (lg_sl ([.ref h0, .int (nI g), .int (nI w), .int (nI k), .int (b2i b), .ref qo])).length) Slot.unset).toArray = ls at hl ⊢
  have hl : lv_has ls 7 [(0, .ref h0), (1, .int (nI g)), (2, .int (nI w)), (3, .int (nI k)), (4, .int (b2i b)), (5, .ref qo)] := hl
  refine lv_aload hx hb dL_run_0 (lv_at hl 5 rfl) ?_
  refine lv_iconst (v := nI 0) hx hb dL_run_2 (by decide) ?_
  refine lv_aload_n hx hb dL_run_3 rfl (lv_at hl 0 rfl) ?_
  refine lv_iload_n hx hb dL_run_4 rfl (lv_at hl 1 rfl) ?_
  refine lv_iload_n hx hb dL_run_5 rfl (lv_at hl 2 rfl) ?_
  refine lv_iload_n hx hb dL_run_6 rfl (lv_at hl 3 rfl) ?_
  refine lv_iload hx hb dL_run_7 (lv_at hl 4 rfl) ?_
  have hPc : va_P D vwCl (WB h0 hn hd hq cZ cD cI nb v ln go mv) s.heap := hP.sub [0, 1, 2, 3] rfl
  have hDc : va_D A (WB h0 hn hd hq cZ cD cI nb v ln go mv) := hD.sub [0, 1, 2, 3] (by decide) rfl
  have hKc : va_K D vwCl (TY cZ cD cI) s := hK.sub [0, 1, 2] rfl
  refine rdm_calli (va_runV (As := [.int (nI g), .int (nI w), .int (nI k), .int (b2i b)]) (rest := [.int (nI 0), .ref qo]) ⟨hx, hb, hml, hown, hts⟩ (c_X0_run l D h0 hn hd hq cZ cD cI nb v ln go mv hln hl0 g w k b hg hw hk) (cwV 4 hts gL_run_X0_run rfl rfl rfl (by decide +kernel) ⟨Nat.le_of_ble_eq_true rfl, Nat.le_of_ble_eq_true rfl⟩) ⟨fun a U g mk q => ⟨q.1, xOK_call q.2.1 g mk a, q.2.2.1, va_K.moved (u := U) (U := U.calling g mk a) (Vm.Alike.refl U.vm) q.2.2.2⟩, va_recv hKc hPc (ci := 1) (q0 := 0) rfl rfl, fun U hU hW => ⟨rfl, xOK_at hX hU hW, by rw [hU]; exact hPc, va_K.moved hW.alike hKc⟩⟩ rfl rfl hl.1 rfl (lv_room (Nat.le_of_ble_eq_true rfl)) dL_run_9 ⟨Nat.le_of_ble_eq_true rfl, Nat.le_of_ble_eq_true rfl⟩) (fun r_1 hr_1 => ?_)
  subst hr_1
  refine lv_i2l hx hb dL_run_12 rfl ?_
  refine kn_last hx hb hK hP hD hS 4 3 rfl rfl (by omega) (by decide) dL_run_13 (fun H locs hP hD hS => ?_)
  have hP : va_P D vwCl ([(h0, .inr (1, [.ref hn, .ref hd, .ref hq, .int (b2i go), .int mv])), (hn, .inl (cZ, 165, .inl (fun j => b2i (nb j)))), (hd, .inl (cD, 165, .inr (.inr (.inr (.inl v))))), (hq, .inl (cI, 12, .inl (fun j => nI (ln j)))), (qo, .inl (cJ, 1, .inr (.inl (up oL 0 (Int32.toInt64 (nI (rnC nb v ln g w k b)))))))]) H := hP
  have hD : va_D A ([(h0, .inr (1, [.ref hn, .ref hd, .ref hq, .int (b2i go), .int mv])), (hn, .inl (cZ, 165, .inl (fun j => b2i (nb j)))), (hd, .inl (cD, 165, .inr (.inr (.inr (.inl v))))), (hq, .inl (cI, 12, .inl (fun j => nI (ln j)))), (qo, .inl (cJ, 1, .inr (.inl (up oL 0 (Int32.toInt64 (nI (rnC nb v ln g w k b)))))))]) := hD
  refine lv_goto (tgt := 21) hx hb dL_run_14 (by decide) ?_
  refine lv_iconst (v := nI 0) hx hb dL_run_21 (by decide) ?_
  refine vx_ret ?_
  refine W.widen (k := 3) (n := 18) (Nat.le_of_ble_eq_true rfl) (Nat.le_of_ble_eq_true rfl) ?_
  exact W.iret (v := nI 0) hx hb hr (fun t9 ht9 hW9 => ⟨⟨_, rfl, rfl, by rw [ht9]; exact hP⟩, hS.F ht9⟩) hS.2.2 dL_run_22
set_option maxHeartbeats 4000000 in
set_option maxRecDepth 100000 in
theorem w_run_bad (l : Launch) (D : va_G) (h0 hn hd hq qo : Nat) (cZ cD cI cJ : ClassId) (nb : Nat → Bool) (v : Nat → UInt64) (ln : Nat → Nat) (go : Bool) (mv : Int32) (oL : Nat → Int64) (hln : ∀ j, ln j ≤ 12) (hl0 : l.stackTraces = false) (zz : Nat) (x0 : Int32) (x1 : Int32) (x2 : Int32) (b : Bool) (hbad : ¬ (InN 6 x0 ∧ InN 2 x1 ∧ InN 6 x2)) : Met l yL_run wsL_run ({ frames := 8, cells := 3, slots := 18, locals := 128 }) (va_Pc [.ref h0, .int x0, .int x1, .int x2, .int (b2i b), .ref qo] (fun U => xOK U ∧ xN U ∧ U.heap.size = zz ∧ va_P D vwCl [(h0, .inr (1, [.ref hn, .ref hd, .ref hq, .int (b2i go), .int mv])), (hn, .inl (cZ, 165, .inl (fun j => b2i (nb j)))), (hd, .inl (cD, 165, .inr (.inr (.inr (.inl v))))), (hq, .inl (cI, 12, .inl (fun j => nI (ln j)))), (qo, .inl (cJ, 1, .inr (.inl oL)))] U.heap ∧ va_K D vwCl (TYL cZ cD cI cJ) U ∧ va_D (fun _ => True) [(h0, .inr (1, [.ref hn, .ref hd, .ref hq, .int (b2i go), .int mv])), (hn, .inl (cZ, 165, .inl (fun j => b2i (nb j)))), (hd, .inl (cD, 165, .inr (.inr (.inr (.inl v))))), (hq, .inl (cI, 12, .inl (fun j => nI (ln j)))), (qo, .inl (cJ, 1, .inr (.inl oL)))])) (wr_Qi (fun r => r = nI 1) (fun H => va_P D vwCl [(h0, .inr (1, [.ref hn, .ref hd, .ref hq, .int (b2i go), .int mv])), (hn, .inl (cZ, 165, .inl (fun j => b2i (nb j)))), (hd, .inl (cD, 165, .inr (.inr (.inr (.inl v))))), (hq, .inl (cI, 12, .inl (fun j => nI (ln j)))), (qo, .inl (cJ, 1, .inr (.inl oL)))] H) (va_A [(h0, .inr (1, [.ref hn, .ref hd, .ref hq, .int (b2i go), .int mv])), (hn, .inl (cZ, 165, .inl (fun j => b2i (nb j)))), (hd, .inl (cD, 165, .inr (.inr (.inr (.inl v))))), (hq, .inl (cI, 12, .inl (fun j => nI (ln j)))), (qo, .inl (cJ, 1, .inr (.inl oL)))] zz)) 3 18 (va_A [(h0, .inr (1, [.ref hn, .ref hd, .ref hq, .int (b2i go), .int mv])), (hn, .inl (cZ, 165, .inl (fun j => b2i (nb j)))), (hd, .inl (cD, 165, .inr (.inr (.inr (.inl v))))), (hq, .inl (cI, 12, .inl (fun j => nI (ln j)))), (qo, .inl (cJ, 1, .inr (.inl oL)))] zz) := by
  refine met_of_vx (vx_ofWH (cc := cL_run) (maxL := 7) (ret := some .int) (hh := [(0, 14, 17, 13)]) (by decide) rfl ?_)
  intro p e s m args below meth c s₁ B hml hv
  obtain ⟨rfl, hX, hN, hsz_, hP, hK, hD0⟩ := hv
  have hx := B.exec
  have hb := B.bytes
  have hr := B.returns
  have hts := atoms_spec (ws := wsL_run) B.pre
  have hown : s.vm.findClass RL = some m.cls := findClass_of_methodNamed B.named
  have hlocks := B.notSynchronized
  have htab := vx_table (x := yL_run) (hh := [(0, 14, 17, 13)]) B (hts _ List.mem_cons_self)
  subst hsz_
  have hD := hD0.self (sz := s.heap.size)
  generalize hAe : va_A [(h0, .inr (1, [.ref hn, .ref hd, .ref hq, .int (b2i go), .int mv])), (hn, .inl (cZ, 165, .inl (fun j => b2i (nb j)))), (hd, .inl (cD, 165, .inr (.inr (.inr (.inl v))))), (hq, .inl (cI, 12, .inl (fun j => nI (ln j)))), (qo, .inl (cJ, 1, .inr (.inl oL)))] s.heap.size = A at hD ⊢
  have hA : ∀ q : Nat, s.heap.size ≤ q → A q := fun q h => by rw [← hAe]; exact Or.inr h
  have hS : va_S A s.heap s.heap [] := va_S.rf
  have hl := lv_entry ([.ref h0, .int x0, .int x1, .int x2, .int (b2i b), .ref qo]) (n := 7) (Nat.le_of_ble_eq_true rfl)
  rw [lg_entry_eq]
  generalize (lg_sl ([.ref h0, .int x0, .int x1, .int x2, .int (b2i b), .ref qo]) ++ List.replicate (7 - (lg_sl ([.ref h0, .int x0, .int x1, .int x2, .int (b2i b), .ref qo])).length) Slot.unset).toArray = ls at hl ⊢
  have hl : lv_has ls 7 [(0, .ref h0), (1, .int x0), (2, .int x1), (3, .int x2), (4, .int (b2i b)), (5, .ref qo)] := hl
  refine lv_aload hx hb dL_run_0 (lv_at hl 5 rfl) ?_
  refine lv_iconst (v := nI 0) hx hb dL_run_2 (by decide) ?_
  refine lv_aload_n hx hb dL_run_3 rfl (lv_at hl 0 rfl) ?_
  refine lv_iload_n hx hb dL_run_4 rfl (lv_at hl 1 rfl) ?_
  refine lv_iload_n hx hb dL_run_5 rfl (lv_at hl 2 rfl) ?_
  refine lv_iload_n hx hb dL_run_6 rfl (lv_at hl 3 rfl) ?_
  refine lv_iload hx hb dL_run_7 (lv_at hl 4 rfl) ?_
  have hPc : va_P D vwCl (WB h0 hn hd hq cZ cD cI nb v ln go mv) s.heap := hP.sub [0, 1, 2, 3] rfl
  have hDc : va_D A (WB h0 hn hd hq cZ cD cI nb v ln go mv) := hD.sub [0, 1, 2, 3] (by decide) rfl
  have hKc : va_K D vwCl (TY cZ cD cI) s := hK.sub [0, 1, 2] rfl
  refine kv_never (vx_runV (As := [.int x0, .int x1, .int x2, .int (b2i b)]) (rest := [.int (nI 0), .ref qo]) ⟨hx, hb, hml, hown, hts⟩ (c_X0_run_bad l D h0 hn hd hq cZ cD cI nb v ln go mv hln hl0 x0 x1 x2 b hbad) (cwV 4 hts gL_run_X0_run rfl rfl rfl (by decide +kernel) ⟨Nat.le_of_ble_eq_true rfl, Nat.le_of_ble_eq_true rfl⟩) ⟨fun a U g mk q => ⟨q.1, xOK_call q.2.1 g mk a, q.2.2.1, va_K.moved (u := U) (U := U.calling g mk a) (Vm.Alike.refl U.vm) q.2.2.2⟩, va_recv hKc hPc (ci := 1) (q0 := 0) rfl rfl, fun U hU hW => ⟨rfl, xOK_at hX hU hW, by rw [hU]; exact hPc, va_K.moved hW.alike hKc⟩⟩ rfl rfl hl.1 rfl (lv_room (Nat.le_of_ble_eq_true rfl)) dL_run_9 ⟨Nat.le_of_ble_eq_true rfl, Nat.le_of_ble_eq_true rfl⟩) (fun E9 ce q9 H hE h1 h2 h3 h4 h5 => ?_)
  subst hE
  have hP : va_P D vwCl [(h0, .inr (1, [.ref hn, .ref hd, .ref hq, .int (b2i go), .int mv])), (hn, .inl (cZ, 165, .inl (fun j => b2i (nb j)))), (hd, .inl (cD, 165, .inr (.inr (.inr (.inl v))))), (hq, .inl (cI, 12, .inl (fun j => nI (ln j)))), (qo, .inl (cJ, 1, .inr (.inl oL)))] H := hP.kept (fun k q hk => h2 q.1 (vx_lt hP hk))
  have hS : va_S A s.heap H [] := ⟨h1, fun q hq _ => h2 q hq, fun q hq => absurd hq List.not_mem_nil⟩
  refine vx_catch (E := IAE) (name := IAE) hown [] ⟨0, 14, 17, 13⟩ [] htab (fun z hz => absurd hz List.not_mem_nil) (by decide) (by decide) (hts (.classLink RL 13 IAE) (by decide +kernel)) (xC.word hX.2.2.2.1) h3 h4 h5 ?_
  show W p l e _ s m _ below meth c H [] _ _ _ (F0 m 17 ls [.ref q9])
  refine lv_astore (lv' := [(6, .ref q9), (0, .ref h0), (1, .int x0), (2, .int x1), (3, .int x2), (4, .int (b2i b)), (5, .ref qo)]) hx hb dL_run_17 hl (by decide) rfl (fun ls hl => ?_)
  refine lv_iconst (v := nI 1) hx hb dL_run_19 (by decide) ?_
  refine vx_ret ?_
  refine W.widen (k := 3) (n := 18) (Nat.le_of_ble_eq_true rfl) (Nat.le_of_ble_eq_true rfl) ?_
  exact W.iret (v := nI 1) hx hb hr (fun t9 ht9 hW9 => ⟨⟨_, rfl, rfl, by rw [ht9]; exact hP⟩, hS.F ht9⟩) hS.2.2 dL_run_20
set_option maxHeartbeats 4000000 in
set_option maxRecDepth 100000 in
theorem w_count (l : Launch) (D : va_G) (h0 hn hd hq qo : Nat) (cZ cD cI cJ : ClassId) (nb : Nat → Bool) (v : Nat → UInt64) (ln : Nat → Nat) (go : Bool) (mv : Int32) (oL : Nat → Int64) (hln : ∀ j, ln j ≤ 12) (hl0 : l.stackTraces = false) (zz : Nat) (g : Nat) (w : Nat) (k : Nat) (b : Bool) (hg : g < 6) (hw : w < 2) (hk : k < 6) : Met l yL_count wsL_count ({ frames := 8, cells := 3, slots := 18, locals := 129 }) (va_Pc [.ref h0, .int (nI g), .int (nI w), .int (nI k), .int (b2i b), .ref qo] (fun U => xOK U ∧ xN U ∧ U.heap.size = zz ∧ va_P D vwCl [(h0, .inr (1, [.ref hn, .ref hd, .ref hq, .int (b2i go), .int mv])), (hn, .inl (cZ, 165, .inl (fun j => b2i (nb j)))), (hd, .inl (cD, 165, .inr (.inr (.inr (.inl v))))), (hq, .inl (cI, 12, .inl (fun j => nI (ln j)))), (qo, .inl (cJ, 1, .inr (.inl oL)))] U.heap ∧ va_K D vwCl (TYL cZ cD cI cJ) U ∧ va_D (fun _ => True) [(h0, .inr (1, [.ref hn, .ref hd, .ref hq, .int (b2i go), .int mv])), (hn, .inl (cZ, 165, .inl (fun j => b2i (nb j)))), (hd, .inl (cD, 165, .inr (.inr (.inr (.inl v))))), (hq, .inl (cI, 12, .inl (fun j => nI (ln j)))), (qo, .inl (cJ, 1, .inr (.inl oL)))])) (wr_Qi (fun r => r = nI 0) (fun H => va_P D vwCl [(h0, .inr (1, [.ref hn, .ref hd, .ref hq, .int (b2i go), .int mv])), (hn, .inl (cZ, 165, .inl (fun j => b2i (nb j)))), (hd, .inl (cD, 165, .inr (.inr (.inr (.inl v))))), (hq, .inl (cI, 12, .inl (fun j => nI (ln j)))), (qo, .inl (cJ, 1, .inr (.inl (up oL 0 (Int32.toInt64 (nI (ctC nb v ln g w k b)))))))] H) (va_A [(h0, .inr (1, [.ref hn, .ref hd, .ref hq, .int (b2i go), .int mv])), (hn, .inl (cZ, 165, .inl (fun j => b2i (nb j)))), (hd, .inl (cD, 165, .inr (.inr (.inr (.inl v))))), (hq, .inl (cI, 12, .inl (fun j => nI (ln j)))), (qo, .inl (cJ, 1, .inr (.inl oL)))] zz)) 3 18 (va_A [(h0, .inr (1, [.ref hn, .ref hd, .ref hq, .int (b2i go), .int mv])), (hn, .inl (cZ, 165, .inl (fun j => b2i (nb j)))), (hd, .inl (cD, 165, .inr (.inr (.inr (.inl v))))), (hq, .inl (cI, 12, .inl (fun j => nI (ln j)))), (qo, .inl (cJ, 1, .inr (.inl oL)))] zz) := by
  refine met_of_vx (vx_ofWH (cc := cL_count) (maxL := 7) (ret := some .int) (hh := [(0, 14, 17, 13)]) (by decide) rfl ?_)
  intro p e s m args below meth c s₁ B hml hv
  obtain ⟨rfl, hX, hN, hsz_, hP, hK, hD0⟩ := hv
  have hx := B.exec
  have hb := B.bytes
  have hr := B.returns
  have hts := atoms_spec (ws := wsL_count) B.pre
  have hown : s.vm.findClass RL = some m.cls := findClass_of_methodNamed B.named
  have hlocks := B.notSynchronized
  have htab := vx_table (x := yL_count) (hh := [(0, 14, 17, 13)]) B (hts _ List.mem_cons_self)
  subst hsz_
  have hD := hD0.self (sz := s.heap.size)
  generalize hAe : va_A [(h0, .inr (1, [.ref hn, .ref hd, .ref hq, .int (b2i go), .int mv])), (hn, .inl (cZ, 165, .inl (fun j => b2i (nb j)))), (hd, .inl (cD, 165, .inr (.inr (.inr (.inl v))))), (hq, .inl (cI, 12, .inl (fun j => nI (ln j)))), (qo, .inl (cJ, 1, .inr (.inl oL)))] s.heap.size = A at hD ⊢
  have hA : ∀ q : Nat, s.heap.size ≤ q → A q := fun q h => by rw [← hAe]; exact Or.inr h
  have hS : va_S A s.heap s.heap [] := va_S.rf
  have hl := lv_entry ([.ref h0, .int (nI g), .int (nI w), .int (nI k), .int (b2i b), .ref qo]) (n := 7) (Nat.le_of_ble_eq_true rfl)
  rw [lg_entry_eq]
  generalize (lg_sl ([.ref h0, .int (nI g), .int (nI w), .int (nI k), .int (b2i b), .ref qo]) ++ List.replicate (7 - (lg_sl ([.ref h0, .int (nI g), .int (nI w), .int (nI k), .int (b2i b), .ref qo])).length) Slot.unset).toArray = ls at hl ⊢
  have hl : lv_has ls 7 [(0, .ref h0), (1, .int (nI g)), (2, .int (nI w)), (3, .int (nI k)), (4, .int (b2i b)), (5, .ref qo)] := hl
  refine lv_aload hx hb dL_count_0 (lv_at hl 5 rfl) ?_
  refine lv_iconst (v := nI 0) hx hb dL_count_2 (by decide) ?_
  refine lv_aload_n hx hb dL_count_3 rfl (lv_at hl 0 rfl) ?_
  refine lv_iload_n hx hb dL_count_4 rfl (lv_at hl 1 rfl) ?_
  refine lv_iload_n hx hb dL_count_5 rfl (lv_at hl 2 rfl) ?_
  refine lv_iload_n hx hb dL_count_6 rfl (lv_at hl 3 rfl) ?_
  refine lv_iload hx hb dL_count_7 (lv_at hl 4 rfl) ?_
  have hPc : va_P D vwCl (WB h0 hn hd hq cZ cD cI nb v ln go mv) s.heap := hP.sub [0, 1, 2, 3] rfl
  have hDc : va_D A (WB h0 hn hd hq cZ cD cI nb v ln go mv) := hD.sub [0, 1, 2, 3] (by decide) rfl
  have hKc : va_K D vwCl (TY cZ cD cI) s := hK.sub [0, 1, 2] rfl
  refine rdm_calli (va_runV (As := [.int (nI g), .int (nI w), .int (nI k), .int (b2i b)]) (rest := [.int (nI 0), .ref qo]) ⟨hx, hb, hml, hown, hts⟩ (c_X0_count l D h0 hn hd hq cZ cD cI nb v ln go mv hln hl0 g w k b hg hw hk) (cwV 4 hts gL_count_X0_count rfl rfl rfl (by decide +kernel) ⟨Nat.le_of_ble_eq_true rfl, Nat.le_of_ble_eq_true rfl⟩) ⟨fun a U g mk q => ⟨q.1, xOK_call q.2.1 g mk a, q.2.2.1, va_K.moved (u := U) (U := U.calling g mk a) (Vm.Alike.refl U.vm) q.2.2.2⟩, va_recv hKc hPc (ci := 1) (q0 := 0) rfl rfl, fun U hU hW => ⟨rfl, xOK_at hX hU hW, by rw [hU]; exact hPc, va_K.moved hW.alike hKc⟩⟩ rfl rfl hl.1 rfl (lv_room (Nat.le_of_ble_eq_true rfl)) dL_count_9 ⟨Nat.le_of_ble_eq_true rfl, Nat.le_of_ble_eq_true rfl⟩) (fun r_1 hr_1 => ?_)
  subst hr_1
  refine lv_i2l hx hb dL_count_12 rfl ?_
  refine kn_last hx hb hK hP hD hS 4 3 rfl rfl (by omega) (by decide) dL_count_13 (fun H locs hP hD hS => ?_)
  have hP : va_P D vwCl ([(h0, .inr (1, [.ref hn, .ref hd, .ref hq, .int (b2i go), .int mv])), (hn, .inl (cZ, 165, .inl (fun j => b2i (nb j)))), (hd, .inl (cD, 165, .inr (.inr (.inr (.inl v))))), (hq, .inl (cI, 12, .inl (fun j => nI (ln j)))), (qo, .inl (cJ, 1, .inr (.inl (up oL 0 (Int32.toInt64 (nI (ctC nb v ln g w k b)))))))]) H := hP
  have hD : va_D A ([(h0, .inr (1, [.ref hn, .ref hd, .ref hq, .int (b2i go), .int mv])), (hn, .inl (cZ, 165, .inl (fun j => b2i (nb j)))), (hd, .inl (cD, 165, .inr (.inr (.inr (.inl v))))), (hq, .inl (cI, 12, .inl (fun j => nI (ln j)))), (qo, .inl (cJ, 1, .inr (.inl (up oL 0 (Int32.toInt64 (nI (ctC nb v ln g w k b)))))))]) := hD
  refine lv_goto (tgt := 21) hx hb dL_count_14 (by decide) ?_
  refine lv_iconst (v := nI 0) hx hb dL_count_21 (by decide) ?_
  refine vx_ret ?_
  refine W.widen (k := 3) (n := 18) (Nat.le_of_ble_eq_true rfl) (Nat.le_of_ble_eq_true rfl) ?_
  exact W.iret (v := nI 0) hx hb hr (fun t9 ht9 hW9 => ⟨⟨_, rfl, rfl, by rw [ht9]; exact hP⟩, hS.F ht9⟩) hS.2.2 dL_count_22
set_option maxHeartbeats 4000000 in
set_option maxRecDepth 100000 in
theorem w_count_bad (l : Launch) (D : va_G) (h0 hn hd hq qo : Nat) (cZ cD cI cJ : ClassId) (nb : Nat → Bool) (v : Nat → UInt64) (ln : Nat → Nat) (go : Bool) (mv : Int32) (oL : Nat → Int64) (hln : ∀ j, ln j ≤ 12) (hl0 : l.stackTraces = false) (zz : Nat) (x0 : Int32) (x1 : Int32) (x2 : Int32) (b : Bool) (hbad : ¬ (InN 6 x0 ∧ InN 2 x1 ∧ InN 6 x2)) : Met l yL_count wsL_count ({ frames := 8, cells := 3, slots := 18, locals := 129 }) (va_Pc [.ref h0, .int x0, .int x1, .int x2, .int (b2i b), .ref qo] (fun U => xOK U ∧ xN U ∧ U.heap.size = zz ∧ va_P D vwCl [(h0, .inr (1, [.ref hn, .ref hd, .ref hq, .int (b2i go), .int mv])), (hn, .inl (cZ, 165, .inl (fun j => b2i (nb j)))), (hd, .inl (cD, 165, .inr (.inr (.inr (.inl v))))), (hq, .inl (cI, 12, .inl (fun j => nI (ln j)))), (qo, .inl (cJ, 1, .inr (.inl oL)))] U.heap ∧ va_K D vwCl (TYL cZ cD cI cJ) U ∧ va_D (fun _ => True) [(h0, .inr (1, [.ref hn, .ref hd, .ref hq, .int (b2i go), .int mv])), (hn, .inl (cZ, 165, .inl (fun j => b2i (nb j)))), (hd, .inl (cD, 165, .inr (.inr (.inr (.inl v))))), (hq, .inl (cI, 12, .inl (fun j => nI (ln j)))), (qo, .inl (cJ, 1, .inr (.inl oL)))])) (wr_Qi (fun r => r = nI 1) (fun H => va_P D vwCl [(h0, .inr (1, [.ref hn, .ref hd, .ref hq, .int (b2i go), .int mv])), (hn, .inl (cZ, 165, .inl (fun j => b2i (nb j)))), (hd, .inl (cD, 165, .inr (.inr (.inr (.inl v))))), (hq, .inl (cI, 12, .inl (fun j => nI (ln j)))), (qo, .inl (cJ, 1, .inr (.inl oL)))] H) (va_A [(h0, .inr (1, [.ref hn, .ref hd, .ref hq, .int (b2i go), .int mv])), (hn, .inl (cZ, 165, .inl (fun j => b2i (nb j)))), (hd, .inl (cD, 165, .inr (.inr (.inr (.inl v))))), (hq, .inl (cI, 12, .inl (fun j => nI (ln j)))), (qo, .inl (cJ, 1, .inr (.inl oL)))] zz)) 3 18 (va_A [(h0, .inr (1, [.ref hn, .ref hd, .ref hq, .int (b2i go), .int mv])), (hn, .inl (cZ, 165, .inl (fun j => b2i (nb j)))), (hd, .inl (cD, 165, .inr (.inr (.inr (.inl v))))), (hq, .inl (cI, 12, .inl (fun j => nI (ln j)))), (qo, .inl (cJ, 1, .inr (.inl oL)))] zz) := by
  refine met_of_vx (vx_ofWH (cc := cL_count) (maxL := 7) (ret := some .int) (hh := [(0, 14, 17, 13)]) (by decide) rfl ?_)
  intro p e s m args below meth c s₁ B hml hv
  obtain ⟨rfl, hX, hN, hsz_, hP, hK, hD0⟩ := hv
  have hx := B.exec
  have hb := B.bytes
  have hr := B.returns
  have hts := atoms_spec (ws := wsL_count) B.pre
  have hown : s.vm.findClass RL = some m.cls := findClass_of_methodNamed B.named
  have hlocks := B.notSynchronized
  have htab := vx_table (x := yL_count) (hh := [(0, 14, 17, 13)]) B (hts _ List.mem_cons_self)
  subst hsz_
  have hD := hD0.self (sz := s.heap.size)
  generalize hAe : va_A [(h0, .inr (1, [.ref hn, .ref hd, .ref hq, .int (b2i go), .int mv])), (hn, .inl (cZ, 165, .inl (fun j => b2i (nb j)))), (hd, .inl (cD, 165, .inr (.inr (.inr (.inl v))))), (hq, .inl (cI, 12, .inl (fun j => nI (ln j)))), (qo, .inl (cJ, 1, .inr (.inl oL)))] s.heap.size = A at hD ⊢
  have hA : ∀ q : Nat, s.heap.size ≤ q → A q := fun q h => by rw [← hAe]; exact Or.inr h
  have hS : va_S A s.heap s.heap [] := va_S.rf
  have hl := lv_entry ([.ref h0, .int x0, .int x1, .int x2, .int (b2i b), .ref qo]) (n := 7) (Nat.le_of_ble_eq_true rfl)
  rw [lg_entry_eq]
  generalize (lg_sl ([.ref h0, .int x0, .int x1, .int x2, .int (b2i b), .ref qo]) ++ List.replicate (7 - (lg_sl ([.ref h0, .int x0, .int x1, .int x2, .int (b2i b), .ref qo])).length) Slot.unset).toArray = ls at hl ⊢
  have hl : lv_has ls 7 [(0, .ref h0), (1, .int x0), (2, .int x1), (3, .int x2), (4, .int (b2i b)), (5, .ref qo)] := hl
  refine lv_aload hx hb dL_count_0 (lv_at hl 5 rfl) ?_
  refine lv_iconst (v := nI 0) hx hb dL_count_2 (by decide) ?_
  refine lv_aload_n hx hb dL_count_3 rfl (lv_at hl 0 rfl) ?_
  refine lv_iload_n hx hb dL_count_4 rfl (lv_at hl 1 rfl) ?_
  refine lv_iload_n hx hb dL_count_5 rfl (lv_at hl 2 rfl) ?_
  refine lv_iload_n hx hb dL_count_6 rfl (lv_at hl 3 rfl) ?_
  refine lv_iload hx hb dL_count_7 (lv_at hl 4 rfl) ?_
  have hPc : va_P D vwCl (WB h0 hn hd hq cZ cD cI nb v ln go mv) s.heap := hP.sub [0, 1, 2, 3] rfl
  have hDc : va_D A (WB h0 hn hd hq cZ cD cI nb v ln go mv) := hD.sub [0, 1, 2, 3] (by decide) rfl
  have hKc : va_K D vwCl (TY cZ cD cI) s := hK.sub [0, 1, 2] rfl
  refine kv_never (vx_runV (As := [.int x0, .int x1, .int x2, .int (b2i b)]) (rest := [.int (nI 0), .ref qo]) ⟨hx, hb, hml, hown, hts⟩ (c_X0_count_bad l D h0 hn hd hq cZ cD cI nb v ln go mv hln hl0 x0 x1 x2 b hbad) (cwV 4 hts gL_count_X0_count rfl rfl rfl (by decide +kernel) ⟨Nat.le_of_ble_eq_true rfl, Nat.le_of_ble_eq_true rfl⟩) ⟨fun a U g mk q => ⟨q.1, xOK_call q.2.1 g mk a, q.2.2.1, va_K.moved (u := U) (U := U.calling g mk a) (Vm.Alike.refl U.vm) q.2.2.2⟩, va_recv hKc hPc (ci := 1) (q0 := 0) rfl rfl, fun U hU hW => ⟨rfl, xOK_at hX hU hW, by rw [hU]; exact hPc, va_K.moved hW.alike hKc⟩⟩ rfl rfl hl.1 rfl (lv_room (Nat.le_of_ble_eq_true rfl)) dL_count_9 ⟨Nat.le_of_ble_eq_true rfl, Nat.le_of_ble_eq_true rfl⟩) (fun E9 ce q9 H hE h1 h2 h3 h4 h5 => ?_)
  subst hE
  have hP : va_P D vwCl [(h0, .inr (1, [.ref hn, .ref hd, .ref hq, .int (b2i go), .int mv])), (hn, .inl (cZ, 165, .inl (fun j => b2i (nb j)))), (hd, .inl (cD, 165, .inr (.inr (.inr (.inl v))))), (hq, .inl (cI, 12, .inl (fun j => nI (ln j)))), (qo, .inl (cJ, 1, .inr (.inl oL)))] H := hP.kept (fun k q hk => h2 q.1 (vx_lt hP hk))
  have hS : va_S A s.heap H [] := ⟨h1, fun q hq _ => h2 q hq, fun q hq => absurd hq List.not_mem_nil⟩
  refine vx_catch (E := IAE) (name := IAE) hown [] ⟨0, 14, 17, 13⟩ [] htab (fun z hz => absurd hz List.not_mem_nil) (by decide) (by decide) (hts (.classLink RL 13 IAE) (by decide +kernel)) (xC.word hX.2.2.2.1) h3 h4 h5 ?_
  show W p l e _ s m _ below meth c H [] _ _ _ (F0 m 17 ls [.ref q9])
  refine lv_astore (lv' := [(6, .ref q9), (0, .ref h0), (1, .int x0), (2, .int x1), (3, .int x2), (4, .int (b2i b)), (5, .ref qo)]) hx hb dL_count_17 hl (by decide) rfl (fun ls hl => ?_)
  refine lv_iconst (v := nI 1) hx hb dL_count_19 (by decide) ?_
  refine vx_ret ?_
  refine W.widen (k := 3) (n := 18) (Nat.le_of_ble_eq_true rfl) (Nat.le_of_ble_eq_true rfl) ?_
  exact W.iret (v := nI 1) hx hb hr (fun t9 ht9 hW9 => ⟨⟨_, rfl, rfl, by rw [ht9]; exact hP⟩, hS.F ht9⟩) hS.2.2 dL_count_20
set_option maxHeartbeats 4000000 in
set_option maxRecDepth 100000 in
theorem w_holds (l : Launch) (D : va_G) (h0 hn hd hq qo : Nat) (cZ cD cI cJ : ClassId) (nb : Nat → Bool) (v : Nat → UInt64) (ln : Nat → Nat) (go : Bool) (mv : Int32) (oL : Nat → Int64) (hln : ∀ j, ln j ≤ 12) (hl0 : l.stackTraces = false) (zz : Nat) (g : Nat) (h : Nat) (w : Nat) (k : Nat) (hg : g < 6) (hh : h < 6) (hw : w < 2) (hk : k < 6) : Met l yL_holds wsL_holds ({ frames := 8, cells := 4, slots := 24, locals := 126 }) (va_Pc [.ref h0, .int (nI g), .int (nI h), .int (nI w), .int (nI k), .ref qo] (fun U => xOK U ∧ xN U ∧ U.heap.size = zz ∧ va_P D vwCl [(h0, .inr (1, [.ref hn, .ref hd, .ref hq, .int (b2i go), .int mv])), (hn, .inl (cZ, 165, .inl (fun j => b2i (nb j)))), (hd, .inl (cD, 165, .inr (.inr (.inr (.inl v))))), (hq, .inl (cI, 12, .inl (fun j => nI (ln j)))), (qo, .inl (cJ, 1, .inr (.inl oL)))] U.heap ∧ va_K D vwCl (TYL cZ cD cI cJ) U ∧ va_D (fun _ => True) [(h0, .inr (1, [.ref hn, .ref hd, .ref hq, .int (b2i go), .int mv])), (hn, .inl (cZ, 165, .inl (fun j => b2i (nb j)))), (hd, .inl (cD, 165, .inr (.inr (.inr (.inl v))))), (hq, .inl (cI, 12, .inl (fun j => nI (ln j)))), (qo, .inl (cJ, 1, .inr (.inl oL)))])) (wr_Qi (fun r => r = nI 0) (fun H => va_P D vwCl [(h0, .inr (1, [.ref hn, .ref hd, .ref hq, .int (b2i go), .int mv])), (hn, .inl (cZ, 165, .inl (fun j => b2i (nb j)))), (hd, .inl (cD, 165, .inr (.inr (.inr (.inl v))))), (hq, .inl (cI, 12, .inl (fun j => nI (ln j)))), (qo, .inl (cJ, 1, .inr (.inl (up oL 0 (b2l (rp nb v (lp ln (g * 2 + w)) (lp ln (h * 2 + w)) k))))))] H) (va_A [(h0, .inr (1, [.ref hn, .ref hd, .ref hq, .int (b2i go), .int mv])), (hn, .inl (cZ, 165, .inl (fun j => b2i (nb j)))), (hd, .inl (cD, 165, .inr (.inr (.inr (.inl v))))), (hq, .inl (cI, 12, .inl (fun j => nI (ln j)))), (qo, .inl (cJ, 1, .inr (.inl oL)))] zz)) 4 24 (va_A [(h0, .inr (1, [.ref hn, .ref hd, .ref hq, .int (b2i go), .int mv])), (hn, .inl (cZ, 165, .inl (fun j => b2i (nb j)))), (hd, .inl (cD, 165, .inr (.inr (.inr (.inl v))))), (hq, .inl (cI, 12, .inl (fun j => nI (ln j)))), (qo, .inl (cJ, 1, .inr (.inl oL)))] zz) := by
  refine met_of_vx (vx_ofWH (cc := cL_holds) (maxL := 7) (ret := some .int) (hh := [(0, 21, 24, 13)]) (by decide) rfl ?_)
  intro p e s m args below meth c s₁ B hml hv
  obtain ⟨rfl, hX, hN, hsz_, hP, hK, hD0⟩ := hv
  have hx := B.exec
  have hb := B.bytes
  have hr := B.returns
  have hts := atoms_spec (ws := wsL_holds) B.pre
  have hown : s.vm.findClass RL = some m.cls := findClass_of_methodNamed B.named
  have hlocks := B.notSynchronized
  have htab := vx_table (x := yL_holds) (hh := [(0, 21, 24, 13)]) B (hts _ List.mem_cons_self)
  subst hsz_
  have hD := hD0.self (sz := s.heap.size)
  generalize hAe : va_A [(h0, .inr (1, [.ref hn, .ref hd, .ref hq, .int (b2i go), .int mv])), (hn, .inl (cZ, 165, .inl (fun j => b2i (nb j)))), (hd, .inl (cD, 165, .inr (.inr (.inr (.inl v))))), (hq, .inl (cI, 12, .inl (fun j => nI (ln j)))), (qo, .inl (cJ, 1, .inr (.inl oL)))] s.heap.size = A at hD ⊢
  have hA : ∀ q : Nat, s.heap.size ≤ q → A q := fun q h => by rw [← hAe]; exact Or.inr h
  have hS : va_S A s.heap s.heap [] := va_S.rf
  have hl := lv_entry ([.ref h0, .int (nI g), .int (nI h), .int (nI w), .int (nI k), .ref qo]) (n := 7) (Nat.le_of_ble_eq_true rfl)
  rw [lg_entry_eq]
  generalize (lg_sl ([.ref h0, .int (nI g), .int (nI h), .int (nI w), .int (nI k), .ref qo]) ++ List.replicate (7 - (lg_sl ([.ref h0, .int (nI g), .int (nI h), .int (nI w), .int (nI k), .ref qo])).length) Slot.unset).toArray = ls at hl ⊢
  have hl : lv_has ls 7 [(0, .ref h0), (1, .int (nI g)), (2, .int (nI h)), (3, .int (nI w)), (4, .int (nI k)), (5, .ref qo)] := hl
  refine lv_aload hx hb dL_holds_0 (lv_at hl 5 rfl) ?_
  refine lv_iconst (v := nI 0) hx hb dL_holds_2 (by decide) ?_
  refine lv_aload_n hx hb dL_holds_3 rfl (lv_at hl 0 rfl) ?_
  refine lv_iload_n hx hb dL_holds_4 rfl (lv_at hl 1 rfl) ?_
  refine lv_iload_n hx hb dL_holds_5 rfl (lv_at hl 2 rfl) ?_
  refine lv_iload_n hx hb dL_holds_6 rfl (lv_at hl 3 rfl) ?_
  refine lv_iload hx hb dL_holds_7 (lv_at hl 4 rfl) ?_
  have hPc : va_P D vwCl (WB h0 hn hd hq cZ cD cI nb v ln go mv) s.heap := hP.sub [0, 1, 2, 3] rfl
  have hDc : va_D A (WB h0 hn hd hq cZ cD cI nb v ln go mv) := hD.sub [0, 1, 2, 3] (by decide) rfl
  have hKc : va_K D vwCl (TY cZ cD cI) s := hK.sub [0, 1, 2] rfl
  refine rdm_calli (va_runV (As := [.int (nI g), .int (nI h), .int (nI w), .int (nI k)]) (rest := [.int (nI 0), .ref qo]) ⟨hx, hb, hml, hown, hts⟩ (c_X0_holds l D h0 hn hd hq cZ cD cI nb v ln go mv hln hl0 g h w k hg hh hw hk) (cwV 4 hts gL_holds_X0_holds rfl rfl rfl (by decide +kernel) ⟨Nat.le_of_ble_eq_true rfl, Nat.le_of_ble_eq_true rfl⟩) ⟨fun a U g mk q => ⟨q.1, xOK_call q.2.1 g mk a, q.2.2.1, va_K.moved (u := U) (U := U.calling g mk a) (Vm.Alike.refl U.vm) q.2.2.2⟩, va_recv hKc hPc (ci := 1) (q0 := 0) rfl rfl, fun U hU hW => ⟨rfl, xOK_at hX hU hW, by rw [hU]; exact hPc, va_K.moved hW.alike hKc⟩⟩ rfl rfl hl.1 rfl (lv_room (Nat.le_of_ble_eq_true rfl)) dL_holds_9 ⟨Nat.le_of_ble_eq_true rfl, Nat.le_of_ble_eq_true rfl⟩) (fun r_1 hr_1 => ?_)
  subst hr_1
  refine kb_eq (tgt := 19) hx hb dL_holds_12 (by decide) (fun c_1 => ?_) (fun c_1 => ?_)
  · refine lv_lconst (v := 0) hx hb dL_holds_19 (by decide) ?_
    refine kn_last hx hb hK hP hD hS 4 3 rfl rfl (by omega) (by decide) dL_holds_20 (fun H locs hP hD hS => ?_)
    have hP : va_P D vwCl ([(h0, .inr (1, [.ref hn, .ref hd, .ref hq, .int (b2i go), .int mv])), (hn, .inl (cZ, 165, .inl (fun j => b2i (nb j)))), (hd, .inl (cD, 165, .inr (.inr (.inr (.inl v))))), (hq, .inl (cI, 12, .inl (fun j => nI (ln j)))), (qo, .inl (cJ, 1, .inr (.inl (up oL 0 0))))]) H := hP
    have hD : va_D A ([(h0, .inr (1, [.ref hn, .ref hd, .ref hq, .int (b2i go), .int mv])), (hn, .inl (cZ, 165, .inl (fun j => b2i (nb j)))), (hd, .inl (cD, 165, .inr (.inr (.inr (.inl v))))), (hq, .inl (cI, 12, .inl (fun j => nI (ln j)))), (qo, .inl (cJ, 1, .inr (.inl (up oL 0 0))))]) := hD
    refine lv_goto (tgt := 28) hx hb dL_holds_21 (by decide) ?_
    refine lv_iconst (v := nI 0) hx hb dL_holds_28 (by decide) ?_
    refine vx_ret ?_
    refine W.widen (k := 4) (n := 24) (Nat.le_of_ble_eq_true rfl) (Nat.le_of_ble_eq_true rfl) ?_
    exact W.iret (v := nI 0) hx hb hr (fun t9 ht9 hW9 => ⟨⟨_, rfl, rfl, by rw [ht9, show b2l (rp nb v (lp ln (g * 2 + w)) (lp ln (h * 2 + w)) k) = 0 from by rw [c_1]; rfl]; exact hP⟩, hS.F ht9⟩) hS.2.2 dL_holds_29
  · refine lv_lconst (v := 1) hx hb dL_holds_15 (by decide) ?_
    refine lv_goto (tgt := 20) hx hb dL_holds_16 (by decide) ?_
    refine kn_last hx hb hK hP hD hS 4 3 rfl rfl (by omega) (by decide) dL_holds_20 (fun H locs hP hD hS => ?_)
    have hP : va_P D vwCl ([(h0, .inr (1, [.ref hn, .ref hd, .ref hq, .int (b2i go), .int mv])), (hn, .inl (cZ, 165, .inl (fun j => b2i (nb j)))), (hd, .inl (cD, 165, .inr (.inr (.inr (.inl v))))), (hq, .inl (cI, 12, .inl (fun j => nI (ln j)))), (qo, .inl (cJ, 1, .inr (.inl (up oL 0 1))))]) H := hP
    have hD : va_D A ([(h0, .inr (1, [.ref hn, .ref hd, .ref hq, .int (b2i go), .int mv])), (hn, .inl (cZ, 165, .inl (fun j => b2i (nb j)))), (hd, .inl (cD, 165, .inr (.inr (.inr (.inl v))))), (hq, .inl (cI, 12, .inl (fun j => nI (ln j)))), (qo, .inl (cJ, 1, .inr (.inl (up oL 0 1))))]) := hD
    refine lv_goto (tgt := 28) hx hb dL_holds_21 (by decide) ?_
    refine lv_iconst (v := nI 0) hx hb dL_holds_28 (by decide) ?_
    refine vx_ret ?_
    refine W.widen (k := 4) (n := 24) (Nat.le_of_ble_eq_true rfl) (Nat.le_of_ble_eq_true rfl) ?_
    exact W.iret (v := nI 0) hx hb hr (fun t9 ht9 hW9 => ⟨⟨_, rfl, rfl, by rw [ht9, show b2l (rp nb v (lp ln (g * 2 + w)) (lp ln (h * 2 + w)) k) = 1 from by rw [c_1]; rfl]; exact hP⟩, hS.F ht9⟩) hS.2.2 dL_holds_29
set_option maxHeartbeats 4000000 in
set_option maxRecDepth 100000 in
theorem w_holds_bad (l : Launch) (D : va_G) (h0 hn hd hq qo : Nat) (cZ cD cI cJ : ClassId) (nb : Nat → Bool) (v : Nat → UInt64) (ln : Nat → Nat) (go : Bool) (mv : Int32) (oL : Nat → Int64) (hln : ∀ j, ln j ≤ 12) (hl0 : l.stackTraces = false) (zz : Nat) (x0 : Int32) (x1 : Int32) (x2 : Int32) (x3 : Int32) (hbad : ¬ (InN 6 x0 ∧ InN 6 x1 ∧ InN 2 x2 ∧ InN 6 x3)) : Met l yL_holds wsL_holds ({ frames := 8, cells := 4, slots := 24, locals := 126 }) (va_Pc [.ref h0, .int x0, .int x1, .int x2, .int x3, .ref qo] (fun U => xOK U ∧ xN U ∧ U.heap.size = zz ∧ va_P D vwCl [(h0, .inr (1, [.ref hn, .ref hd, .ref hq, .int (b2i go), .int mv])), (hn, .inl (cZ, 165, .inl (fun j => b2i (nb j)))), (hd, .inl (cD, 165, .inr (.inr (.inr (.inl v))))), (hq, .inl (cI, 12, .inl (fun j => nI (ln j)))), (qo, .inl (cJ, 1, .inr (.inl oL)))] U.heap ∧ va_K D vwCl (TYL cZ cD cI cJ) U ∧ va_D (fun _ => True) [(h0, .inr (1, [.ref hn, .ref hd, .ref hq, .int (b2i go), .int mv])), (hn, .inl (cZ, 165, .inl (fun j => b2i (nb j)))), (hd, .inl (cD, 165, .inr (.inr (.inr (.inl v))))), (hq, .inl (cI, 12, .inl (fun j => nI (ln j)))), (qo, .inl (cJ, 1, .inr (.inl oL)))])) (wr_Qi (fun r => r = nI 1) (fun H => va_P D vwCl [(h0, .inr (1, [.ref hn, .ref hd, .ref hq, .int (b2i go), .int mv])), (hn, .inl (cZ, 165, .inl (fun j => b2i (nb j)))), (hd, .inl (cD, 165, .inr (.inr (.inr (.inl v))))), (hq, .inl (cI, 12, .inl (fun j => nI (ln j)))), (qo, .inl (cJ, 1, .inr (.inl oL)))] H) (va_A [(h0, .inr (1, [.ref hn, .ref hd, .ref hq, .int (b2i go), .int mv])), (hn, .inl (cZ, 165, .inl (fun j => b2i (nb j)))), (hd, .inl (cD, 165, .inr (.inr (.inr (.inl v))))), (hq, .inl (cI, 12, .inl (fun j => nI (ln j)))), (qo, .inl (cJ, 1, .inr (.inl oL)))] zz)) 4 24 (va_A [(h0, .inr (1, [.ref hn, .ref hd, .ref hq, .int (b2i go), .int mv])), (hn, .inl (cZ, 165, .inl (fun j => b2i (nb j)))), (hd, .inl (cD, 165, .inr (.inr (.inr (.inl v))))), (hq, .inl (cI, 12, .inl (fun j => nI (ln j)))), (qo, .inl (cJ, 1, .inr (.inl oL)))] zz) := by
  refine met_of_vx (vx_ofWH (cc := cL_holds) (maxL := 7) (ret := some .int) (hh := [(0, 21, 24, 13)]) (by decide) rfl ?_)
  intro p e s m args below meth c s₁ B hml hv
  obtain ⟨rfl, hX, hN, hsz_, hP, hK, hD0⟩ := hv
  have hx := B.exec
  have hb := B.bytes
  have hr := B.returns
  have hts := atoms_spec (ws := wsL_holds) B.pre
  have hown : s.vm.findClass RL = some m.cls := findClass_of_methodNamed B.named
  have hlocks := B.notSynchronized
  have htab := vx_table (x := yL_holds) (hh := [(0, 21, 24, 13)]) B (hts _ List.mem_cons_self)
  subst hsz_
  have hD := hD0.self (sz := s.heap.size)
  generalize hAe : va_A [(h0, .inr (1, [.ref hn, .ref hd, .ref hq, .int (b2i go), .int mv])), (hn, .inl (cZ, 165, .inl (fun j => b2i (nb j)))), (hd, .inl (cD, 165, .inr (.inr (.inr (.inl v))))), (hq, .inl (cI, 12, .inl (fun j => nI (ln j)))), (qo, .inl (cJ, 1, .inr (.inl oL)))] s.heap.size = A at hD ⊢
  have hA : ∀ q : Nat, s.heap.size ≤ q → A q := fun q h => by rw [← hAe]; exact Or.inr h
  have hS : va_S A s.heap s.heap [] := va_S.rf
  have hl := lv_entry ([.ref h0, .int x0, .int x1, .int x2, .int x3, .ref qo]) (n := 7) (Nat.le_of_ble_eq_true rfl)
  rw [lg_entry_eq]
  generalize (lg_sl ([.ref h0, .int x0, .int x1, .int x2, .int x3, .ref qo]) ++ List.replicate (7 - (lg_sl ([.ref h0, .int x0, .int x1, .int x2, .int x3, .ref qo])).length) Slot.unset).toArray = ls at hl ⊢
  have hl : lv_has ls 7 [(0, .ref h0), (1, .int x0), (2, .int x1), (3, .int x2), (4, .int x3), (5, .ref qo)] := hl
  refine lv_aload hx hb dL_holds_0 (lv_at hl 5 rfl) ?_
  refine lv_iconst (v := nI 0) hx hb dL_holds_2 (by decide) ?_
  refine lv_aload_n hx hb dL_holds_3 rfl (lv_at hl 0 rfl) ?_
  refine lv_iload_n hx hb dL_holds_4 rfl (lv_at hl 1 rfl) ?_
  refine lv_iload_n hx hb dL_holds_5 rfl (lv_at hl 2 rfl) ?_
  refine lv_iload_n hx hb dL_holds_6 rfl (lv_at hl 3 rfl) ?_
  refine lv_iload hx hb dL_holds_7 (lv_at hl 4 rfl) ?_
  have hPc : va_P D vwCl (WB h0 hn hd hq cZ cD cI nb v ln go mv) s.heap := hP.sub [0, 1, 2, 3] rfl
  have hDc : va_D A (WB h0 hn hd hq cZ cD cI nb v ln go mv) := hD.sub [0, 1, 2, 3] (by decide) rfl
  have hKc : va_K D vwCl (TY cZ cD cI) s := hK.sub [0, 1, 2] rfl
  refine kv_never (vx_runV (As := [.int x0, .int x1, .int x2, .int x3]) (rest := [.int (nI 0), .ref qo]) ⟨hx, hb, hml, hown, hts⟩ (c_X0_holds_bad l D h0 hn hd hq cZ cD cI nb v ln go mv hln hl0 x0 x1 x2 x3 hbad) (cwV 4 hts gL_holds_X0_holds rfl rfl rfl (by decide +kernel) ⟨Nat.le_of_ble_eq_true rfl, Nat.le_of_ble_eq_true rfl⟩) ⟨fun a U g mk q => ⟨q.1, xOK_call q.2.1 g mk a, q.2.2.1, va_K.moved (u := U) (U := U.calling g mk a) (Vm.Alike.refl U.vm) q.2.2.2⟩, va_recv hKc hPc (ci := 1) (q0 := 0) rfl rfl, fun U hU hW => ⟨rfl, xOK_at hX hU hW, by rw [hU]; exact hPc, va_K.moved hW.alike hKc⟩⟩ rfl rfl hl.1 rfl (lv_room (Nat.le_of_ble_eq_true rfl)) dL_holds_9 ⟨Nat.le_of_ble_eq_true rfl, Nat.le_of_ble_eq_true rfl⟩) (fun E9 ce q9 H hE h1 h2 h3 h4 h5 => ?_)
  subst hE
  have hP : va_P D vwCl [(h0, .inr (1, [.ref hn, .ref hd, .ref hq, .int (b2i go), .int mv])), (hn, .inl (cZ, 165, .inl (fun j => b2i (nb j)))), (hd, .inl (cD, 165, .inr (.inr (.inr (.inl v))))), (hq, .inl (cI, 12, .inl (fun j => nI (ln j)))), (qo, .inl (cJ, 1, .inr (.inl oL)))] H := hP.kept (fun k q hk => h2 q.1 (vx_lt hP hk))
  have hS : va_S A s.heap H [] := ⟨h1, fun q hq _ => h2 q hq, fun q hq => absurd hq List.not_mem_nil⟩
  refine vx_catch (E := IAE) (name := IAE) hown [] ⟨0, 21, 24, 13⟩ [] htab (fun z hz => absurd hz List.not_mem_nil) (by decide) (by decide) (hts (.classLink RL 13 IAE) (by decide +kernel)) (xC.word hX.2.2.2.1) h3 h4 h5 ?_
  show W p l e _ s m _ below meth c H [] _ _ _ (F0 m 24 ls [.ref q9])
  refine lv_astore (lv' := [(6, .ref q9), (0, .ref h0), (1, .int x0), (2, .int x1), (3, .int x2), (4, .int x3), (5, .ref qo)]) hx hb dL_holds_24 hl (by decide) rfl (fun ls hl => ?_)
  refine lv_iconst (v := nI 1) hx hb dL_holds_26 (by decide) ?_
  refine vx_ret ?_
  refine W.widen (k := 4) (n := 24) (Nat.le_of_ble_eq_true rfl) (Nat.le_of_ble_eq_true rfl) ?_
  exact W.iret (v := nI 1) hx hb hr (fun t9 ht9 hW9 => ⟨⟨_, rfl, rfl, by rw [ht9]; exact hP⟩, hS.F ht9⟩) hS.2.2 dL_holds_27
set_option maxHeartbeats 4000000 in
set_option maxRecDepth 100000 in
theorem w_pick (l : Launch) (D : va_G) (h0 hn hd hq qo : Nat) (cZ cD cI cJ : ClassId) (nb : Nat → Bool) (v : Nat → UInt64) (ln : Nat → Nat) (go : Bool) (mv : Int32) (oL : Nat → Int64) (hln : ∀ j, ln j ≤ 12) (hl0 : l.stackTraces = false) (zz : Nat) (g : Nat) (h : Nat) (w : Nat) (k : Nat) (hg : g < 6) (hh : h < 6) (hw : w < 2) (hk : k < 6) : Met l yL_pick wsL_pick ({ frames := 8, cells := 4, slots := 24, locals := 128 }) (va_Pc [.ref h0, .int (nI g), .int (nI h), .int (nI w), .int (nI k), .ref qo] (fun U => xOK U ∧ xN U ∧ U.heap.size = zz ∧ va_P D vwCl [(h0, .inr (1, [.ref hn, .ref hd, .ref hq, .int (b2i go), .int mv])), (hn, .inl (cZ, 165, .inl (fun j => b2i (nb j)))), (hd, .inl (cD, 165, .inr (.inr (.inr (.inl v))))), (hq, .inl (cI, 12, .inl (fun j => nI (ln j)))), (qo, .inl (cJ, 1, .inr (.inl oL)))] U.heap ∧ va_K D vwCl (TYL cZ cD cI cJ) U ∧ va_D (fun _ => True) [(h0, .inr (1, [.ref hn, .ref hd, .ref hq, .int (b2i go), .int mv])), (hn, .inl (cZ, 165, .inl (fun j => b2i (nb j)))), (hd, .inl (cD, 165, .inr (.inr (.inr (.inl v))))), (hq, .inl (cI, 12, .inl (fun j => nI (ln j)))), (qo, .inl (cJ, 1, .inr (.inl oL)))])) (wr_Qi (fun r => r = nI 0) (fun H => va_P D vwCl [(h0, .inr (1, [.ref hn, .ref hd, .ref hq, .int (b2i go), .int mv])), (hn, .inl (cZ, 165, .inl (fun j => b2i (nb j)))), (hd, .inl (cD, 165, .inr (.inr (.inr (.inl v))))), (hq, .inl (cI, 12, .inl (fun j => nI (ln j)))), (qo, .inl (cJ, 1, .inr (.inl (up oL 0 (Int32.toInt64 (if rp nb v (lp ln (g * 2 + w)) (lp ln (h * 2 + w)) k = true then nI g else if rp nb v (lp ln (h * 2 + w)) (lp ln (g * 2 + w)) k = true then nI h else (-1)))))))] H) (va_A [(h0, .inr (1, [.ref hn, .ref hd, .ref hq, .int (b2i go), .int mv])), (hn, .inl (cZ, 165, .inl (fun j => b2i (nb j)))), (hd, .inl (cD, 165, .inr (.inr (.inr (.inl v))))), (hq, .inl (cI, 12, .inl (fun j => nI (ln j)))), (qo, .inl (cJ, 1, .inr (.inl oL)))] zz)) 4 24 (va_A [(h0, .inr (1, [.ref hn, .ref hd, .ref hq, .int (b2i go), .int mv])), (hn, .inl (cZ, 165, .inl (fun j => b2i (nb j)))), (hd, .inl (cD, 165, .inr (.inr (.inr (.inl v))))), (hq, .inl (cI, 12, .inl (fun j => nI (ln j)))), (qo, .inl (cJ, 1, .inr (.inl oL)))] zz) := by
  refine met_of_vx (vx_ofWH (cc := cL_pick) (maxL := 7) (ret := some .int) (hh := [(0, 14, 17, 13)]) (by decide) rfl ?_)
  intro p e s m args below meth c s₁ B hml hv
  obtain ⟨rfl, hX, hN, hsz_, hP, hK, hD0⟩ := hv
  have hx := B.exec
  have hb := B.bytes
  have hr := B.returns
  have hts := atoms_spec (ws := wsL_pick) B.pre
  have hown : s.vm.findClass RL = some m.cls := findClass_of_methodNamed B.named
  have hlocks := B.notSynchronized
  have htab := vx_table (x := yL_pick) (hh := [(0, 14, 17, 13)]) B (hts _ List.mem_cons_self)
  subst hsz_
  have hD := hD0.self (sz := s.heap.size)
  generalize hAe : va_A [(h0, .inr (1, [.ref hn, .ref hd, .ref hq, .int (b2i go), .int mv])), (hn, .inl (cZ, 165, .inl (fun j => b2i (nb j)))), (hd, .inl (cD, 165, .inr (.inr (.inr (.inl v))))), (hq, .inl (cI, 12, .inl (fun j => nI (ln j)))), (qo, .inl (cJ, 1, .inr (.inl oL)))] s.heap.size = A at hD ⊢
  have hA : ∀ q : Nat, s.heap.size ≤ q → A q := fun q h => by rw [← hAe]; exact Or.inr h
  have hS : va_S A s.heap s.heap [] := va_S.rf
  have hl := lv_entry ([.ref h0, .int (nI g), .int (nI h), .int (nI w), .int (nI k), .ref qo]) (n := 7) (Nat.le_of_ble_eq_true rfl)
  rw [lg_entry_eq]
  generalize (lg_sl ([.ref h0, .int (nI g), .int (nI h), .int (nI w), .int (nI k), .ref qo]) ++ List.replicate (7 - (lg_sl ([.ref h0, .int (nI g), .int (nI h), .int (nI w), .int (nI k), .ref qo])).length) Slot.unset).toArray = ls at hl ⊢
  have hl : lv_has ls 7 [(0, .ref h0), (1, .int (nI g)), (2, .int (nI h)), (3, .int (nI w)), (4, .int (nI k)), (5, .ref qo)] := hl
  refine lv_aload hx hb dL_pick_0 (lv_at hl 5 rfl) ?_
  refine lv_iconst (v := nI 0) hx hb dL_pick_2 (by decide) ?_
  refine lv_aload_n hx hb dL_pick_3 rfl (lv_at hl 0 rfl) ?_
  refine lv_iload_n hx hb dL_pick_4 rfl (lv_at hl 1 rfl) ?_
  refine lv_iload_n hx hb dL_pick_5 rfl (lv_at hl 2 rfl) ?_
  refine lv_iload_n hx hb dL_pick_6 rfl (lv_at hl 3 rfl) ?_
  refine lv_iload hx hb dL_pick_7 (lv_at hl 4 rfl) ?_
  have hPc : va_P D vwCl (WB h0 hn hd hq cZ cD cI nb v ln go mv) s.heap := hP.sub [0, 1, 2, 3] rfl
  have hDc : va_D A (WB h0 hn hd hq cZ cD cI nb v ln go mv) := hD.sub [0, 1, 2, 3] (by decide) rfl
  have hKc : va_K D vwCl (TY cZ cD cI) s := hK.sub [0, 1, 2] rfl
  refine rdm_calli (va_runV (As := [.int (nI g), .int (nI h), .int (nI w), .int (nI k)]) (rest := [.int (nI 0), .ref qo]) ⟨hx, hb, hml, hown, hts⟩ (c_X0_pick l D h0 hn hd hq cZ cD cI nb v ln go mv hln hl0 g h w k hg hh hw hk) (cwV 4 hts gL_pick_X0_pick rfl rfl rfl (by decide +kernel) ⟨Nat.le_of_ble_eq_true rfl, Nat.le_of_ble_eq_true rfl⟩) ⟨fun a U g mk q => ⟨q.1, xOK_call q.2.1 g mk a, q.2.2.1, va_K.moved (u := U) (U := U.calling g mk a) (Vm.Alike.refl U.vm) q.2.2.2⟩, va_recv hKc hPc (ci := 1) (q0 := 0) rfl rfl, fun U hU hW => ⟨rfl, xOK_at hX hU hW, by rw [hU]; exact hPc, va_K.moved hW.alike hKc⟩⟩ rfl rfl hl.1 rfl (lv_room (Nat.le_of_ble_eq_true rfl)) dL_pick_9 ⟨Nat.le_of_ble_eq_true rfl, Nat.le_of_ble_eq_true rfl⟩) (fun r_1 hr_1 => ?_)
  subst hr_1
  refine lv_i2l hx hb dL_pick_12 rfl ?_
  refine kn_last hx hb hK hP hD hS 4 3 rfl rfl (by omega) (by decide) dL_pick_13 (fun H locs hP hD hS => ?_)
  have hP : va_P D vwCl ([(h0, .inr (1, [.ref hn, .ref hd, .ref hq, .int (b2i go), .int mv])), (hn, .inl (cZ, 165, .inl (fun j => b2i (nb j)))), (hd, .inl (cD, 165, .inr (.inr (.inr (.inl v))))), (hq, .inl (cI, 12, .inl (fun j => nI (ln j)))), (qo, .inl (cJ, 1, .inr (.inl (up oL 0 (Int32.toInt64 (if rp nb v (lp ln (g * 2 + w)) (lp ln (h * 2 + w)) k = true then nI g else if rp nb v (lp ln (h * 2 + w)) (lp ln (g * 2 + w)) k = true then nI h else (-1)))))))]) H := hP
  have hD : va_D A ([(h0, .inr (1, [.ref hn, .ref hd, .ref hq, .int (b2i go), .int mv])), (hn, .inl (cZ, 165, .inl (fun j => b2i (nb j)))), (hd, .inl (cD, 165, .inr (.inr (.inr (.inl v))))), (hq, .inl (cI, 12, .inl (fun j => nI (ln j)))), (qo, .inl (cJ, 1, .inr (.inl (up oL 0 (Int32.toInt64 (if rp nb v (lp ln (g * 2 + w)) (lp ln (h * 2 + w)) k = true then nI g else if rp nb v (lp ln (h * 2 + w)) (lp ln (g * 2 + w)) k = true then nI h else (-1)))))))]) := hD
  refine lv_goto (tgt := 21) hx hb dL_pick_14 (by decide) ?_
  refine lv_iconst (v := nI 0) hx hb dL_pick_21 (by decide) ?_
  refine vx_ret ?_
  refine W.widen (k := 4) (n := 24) (Nat.le_of_ble_eq_true rfl) (Nat.le_of_ble_eq_true rfl) ?_
  exact W.iret (v := nI 0) hx hb hr (fun t9 ht9 hW9 => ⟨⟨_, rfl, rfl, by rw [ht9]; exact hP⟩, hS.F ht9⟩) hS.2.2 dL_pick_22
set_option maxHeartbeats 4000000 in
set_option maxRecDepth 100000 in
theorem w_pick_bad (l : Launch) (D : va_G) (h0 hn hd hq qo : Nat) (cZ cD cI cJ : ClassId) (nb : Nat → Bool) (v : Nat → UInt64) (ln : Nat → Nat) (go : Bool) (mv : Int32) (oL : Nat → Int64) (hln : ∀ j, ln j ≤ 12) (hl0 : l.stackTraces = false) (zz : Nat) (x0 : Int32) (x1 : Int32) (x2 : Int32) (x3 : Int32) (hbad : ¬ (InN 6 x0 ∧ InN 6 x1 ∧ InN 2 x2 ∧ InN 6 x3)) : Met l yL_pick wsL_pick ({ frames := 8, cells := 4, slots := 24, locals := 128 }) (va_Pc [.ref h0, .int x0, .int x1, .int x2, .int x3, .ref qo] (fun U => xOK U ∧ xN U ∧ U.heap.size = zz ∧ va_P D vwCl [(h0, .inr (1, [.ref hn, .ref hd, .ref hq, .int (b2i go), .int mv])), (hn, .inl (cZ, 165, .inl (fun j => b2i (nb j)))), (hd, .inl (cD, 165, .inr (.inr (.inr (.inl v))))), (hq, .inl (cI, 12, .inl (fun j => nI (ln j)))), (qo, .inl (cJ, 1, .inr (.inl oL)))] U.heap ∧ va_K D vwCl (TYL cZ cD cI cJ) U ∧ va_D (fun _ => True) [(h0, .inr (1, [.ref hn, .ref hd, .ref hq, .int (b2i go), .int mv])), (hn, .inl (cZ, 165, .inl (fun j => b2i (nb j)))), (hd, .inl (cD, 165, .inr (.inr (.inr (.inl v))))), (hq, .inl (cI, 12, .inl (fun j => nI (ln j)))), (qo, .inl (cJ, 1, .inr (.inl oL)))])) (wr_Qi (fun r => r = nI 1) (fun H => va_P D vwCl [(h0, .inr (1, [.ref hn, .ref hd, .ref hq, .int (b2i go), .int mv])), (hn, .inl (cZ, 165, .inl (fun j => b2i (nb j)))), (hd, .inl (cD, 165, .inr (.inr (.inr (.inl v))))), (hq, .inl (cI, 12, .inl (fun j => nI (ln j)))), (qo, .inl (cJ, 1, .inr (.inl oL)))] H) (va_A [(h0, .inr (1, [.ref hn, .ref hd, .ref hq, .int (b2i go), .int mv])), (hn, .inl (cZ, 165, .inl (fun j => b2i (nb j)))), (hd, .inl (cD, 165, .inr (.inr (.inr (.inl v))))), (hq, .inl (cI, 12, .inl (fun j => nI (ln j)))), (qo, .inl (cJ, 1, .inr (.inl oL)))] zz)) 4 24 (va_A [(h0, .inr (1, [.ref hn, .ref hd, .ref hq, .int (b2i go), .int mv])), (hn, .inl (cZ, 165, .inl (fun j => b2i (nb j)))), (hd, .inl (cD, 165, .inr (.inr (.inr (.inl v))))), (hq, .inl (cI, 12, .inl (fun j => nI (ln j)))), (qo, .inl (cJ, 1, .inr (.inl oL)))] zz) := by
  refine met_of_vx (vx_ofWH (cc := cL_pick) (maxL := 7) (ret := some .int) (hh := [(0, 14, 17, 13)]) (by decide) rfl ?_)
  intro p e s m args below meth c s₁ B hml hv
  obtain ⟨rfl, hX, hN, hsz_, hP, hK, hD0⟩ := hv
  have hx := B.exec
  have hb := B.bytes
  have hr := B.returns
  have hts := atoms_spec (ws := wsL_pick) B.pre
  have hown : s.vm.findClass RL = some m.cls := findClass_of_methodNamed B.named
  have hlocks := B.notSynchronized
  have htab := vx_table (x := yL_pick) (hh := [(0, 14, 17, 13)]) B (hts _ List.mem_cons_self)
  subst hsz_
  have hD := hD0.self (sz := s.heap.size)
  generalize hAe : va_A [(h0, .inr (1, [.ref hn, .ref hd, .ref hq, .int (b2i go), .int mv])), (hn, .inl (cZ, 165, .inl (fun j => b2i (nb j)))), (hd, .inl (cD, 165, .inr (.inr (.inr (.inl v))))), (hq, .inl (cI, 12, .inl (fun j => nI (ln j)))), (qo, .inl (cJ, 1, .inr (.inl oL)))] s.heap.size = A at hD ⊢
  have hA : ∀ q : Nat, s.heap.size ≤ q → A q := fun q h => by rw [← hAe]; exact Or.inr h
  have hS : va_S A s.heap s.heap [] := va_S.rf
  have hl := lv_entry ([.ref h0, .int x0, .int x1, .int x2, .int x3, .ref qo]) (n := 7) (Nat.le_of_ble_eq_true rfl)
  rw [lg_entry_eq]
  generalize (lg_sl ([.ref h0, .int x0, .int x1, .int x2, .int x3, .ref qo]) ++ List.replicate (7 - (lg_sl ([.ref h0, .int x0, .int x1, .int x2, .int x3, .ref qo])).length) Slot.unset).toArray = ls at hl ⊢
  have hl : lv_has ls 7 [(0, .ref h0), (1, .int x0), (2, .int x1), (3, .int x2), (4, .int x3), (5, .ref qo)] := hl
  refine lv_aload hx hb dL_pick_0 (lv_at hl 5 rfl) ?_
  refine lv_iconst (v := nI 0) hx hb dL_pick_2 (by decide) ?_
  refine lv_aload_n hx hb dL_pick_3 rfl (lv_at hl 0 rfl) ?_
  refine lv_iload_n hx hb dL_pick_4 rfl (lv_at hl 1 rfl) ?_
  refine lv_iload_n hx hb dL_pick_5 rfl (lv_at hl 2 rfl) ?_
  refine lv_iload_n hx hb dL_pick_6 rfl (lv_at hl 3 rfl) ?_
  refine lv_iload hx hb dL_pick_7 (lv_at hl 4 rfl) ?_
  have hPc : va_P D vwCl (WB h0 hn hd hq cZ cD cI nb v ln go mv) s.heap := hP.sub [0, 1, 2, 3] rfl
  have hDc : va_D A (WB h0 hn hd hq cZ cD cI nb v ln go mv) := hD.sub [0, 1, 2, 3] (by decide) rfl
  have hKc : va_K D vwCl (TY cZ cD cI) s := hK.sub [0, 1, 2] rfl
  refine kv_never (vx_runV (As := [.int x0, .int x1, .int x2, .int x3]) (rest := [.int (nI 0), .ref qo]) ⟨hx, hb, hml, hown, hts⟩ (c_X0_pick_bad l D h0 hn hd hq cZ cD cI nb v ln go mv hln hl0 x0 x1 x2 x3 hbad) (cwV 4 hts gL_pick_X0_pick rfl rfl rfl (by decide +kernel) ⟨Nat.le_of_ble_eq_true rfl, Nat.le_of_ble_eq_true rfl⟩) ⟨fun a U g mk q => ⟨q.1, xOK_call q.2.1 g mk a, q.2.2.1, va_K.moved (u := U) (U := U.calling g mk a) (Vm.Alike.refl U.vm) q.2.2.2⟩, va_recv hKc hPc (ci := 1) (q0 := 0) rfl rfl, fun U hU hW => ⟨rfl, xOK_at hX hU hW, by rw [hU]; exact hPc, va_K.moved hW.alike hKc⟩⟩ rfl rfl hl.1 rfl (lv_room (Nat.le_of_ble_eq_true rfl)) dL_pick_9 ⟨Nat.le_of_ble_eq_true rfl, Nat.le_of_ble_eq_true rfl⟩) (fun E9 ce q9 H hE h1 h2 h3 h4 h5 => ?_)
  subst hE
  have hP : va_P D vwCl [(h0, .inr (1, [.ref hn, .ref hd, .ref hq, .int (b2i go), .int mv])), (hn, .inl (cZ, 165, .inl (fun j => b2i (nb j)))), (hd, .inl (cD, 165, .inr (.inr (.inr (.inl v))))), (hq, .inl (cI, 12, .inl (fun j => nI (ln j)))), (qo, .inl (cJ, 1, .inr (.inl oL)))] H := hP.kept (fun k q hk => h2 q.1 (vx_lt hP hk))
  have hS : va_S A s.heap H [] := ⟨h1, fun q hq _ => h2 q hq, fun q hq => absurd hq List.not_mem_nil⟩
  refine vx_catch (E := IAE) (name := IAE) hown [] ⟨0, 14, 17, 13⟩ [] htab (fun z hz => absurd hz List.not_mem_nil) (by decide) (by decide) (hts (.classLink RL 13 IAE) (by decide +kernel)) (xC.word hX.2.2.2.1) h3 h4 h5 ?_
  show W p l e _ s m _ below meth c H [] _ _ _ (F0 m 17 ls [.ref q9])
  refine lv_astore (lv' := [(6, .ref q9), (0, .ref h0), (1, .int x0), (2, .int x1), (3, .int x2), (4, .int x3), (5, .ref qo)]) hx hb dL_pick_17 hl (by decide) rfl (fun ls hl => ?_)
  refine lv_iconst (v := nI 1) hx hb dL_pick_19 (by decide) ?_
  refine vx_ret ?_
  refine W.widen (k := 4) (n := 24) (Nat.le_of_ble_eq_true rfl) (Nat.le_of_ble_eq_true rfl) ?_
  exact W.iret (v := nI 1) hx hb hr (fun t9 ht9 hW9 => ⟨⟨_, rfl, rfl, by rw [ht9]; exact hP⟩, hS.F ht9⟩) hS.2.2 dL_pick_20
set_option maxHeartbeats 4000000 in
set_option maxRecDepth 100000 in
theorem w_stand (l : Launch) (D : va_G) (h0 hn hd hq qo : Nat) (cZ cD cI cJ : ClassId) (nb : Nat → Bool) (v : Nat → UInt64) (ln : Nat → Nat) (go : Bool) (mv : Int32) (oL : Nat → Int64) (hln : ∀ j, ln j ≤ 12) (hl0 : l.stackTraces = false) (zz : Nat) (g : Nat) (hg : g < 6) : Met l yL_stand wsL_stand ({ frames := 8, cells := 1, slots := 6, locals := 123 }) (va_Pc [.ref h0, .int (nI g), .ref qo] (fun U => xOK U ∧ xN U ∧ U.heap.size = zz ∧ va_P D vwCl [(h0, .inr (1, [.ref hn, .ref hd, .ref hq, .int (b2i go), .int mv])), (hn, .inl (cZ, 165, .inl (fun j => b2i (nb j)))), (hd, .inl (cD, 165, .inr (.inr (.inr (.inl v))))), (hq, .inl (cI, 12, .inl (fun j => nI (ln j)))), (qo, .inl (cJ, 1, .inr (.inl oL)))] U.heap ∧ va_K D vwCl (TYL cZ cD cI cJ) U ∧ va_D (fun _ => True) [(h0, .inr (1, [.ref hn, .ref hd, .ref hq, .int (b2i go), .int mv])), (hn, .inl (cZ, 165, .inl (fun j => b2i (nb j)))), (hd, .inl (cD, 165, .inr (.inr (.inr (.inl v))))), (hq, .inl (cI, 12, .inl (fun j => nI (ln j)))), (qo, .inl (cJ, 1, .inr (.inl oL)))])) (wr_Qi (fun r => r = nI 0) (fun H => va_P D vwCl [(h0, .inr (1, [.ref hn, .ref hd, .ref hq, .int (b2i go), .int mv])), (hn, .inl (cZ, 165, .inl (fun j => b2i (nb j)))), (hd, .inl (cD, 165, .inr (.inr (.inr (.inl v))))), (hq, .inl (cI, 12, .inl (fun j => nI (ln j)))), (qo, .inl (cJ, 1, .inr (.inl (up oL 0 (Int32.toInt64 (nI (sL nb v ln g + sW nb v ln g)))))))] H) (va_A [(h0, .inr (1, [.ref hn, .ref hd, .ref hq, .int (b2i go), .int mv])), (hn, .inl (cZ, 165, .inl (fun j => b2i (nb j)))), (hd, .inl (cD, 165, .inr (.inr (.inr (.inl v))))), (hq, .inl (cI, 12, .inl (fun j => nI (ln j)))), (qo, .inl (cJ, 1, .inr (.inl oL)))] zz)) 1 6 (va_A [(h0, .inr (1, [.ref hn, .ref hd, .ref hq, .int (b2i go), .int mv])), (hn, .inl (cZ, 165, .inl (fun j => b2i (nb j)))), (hd, .inl (cD, 165, .inr (.inr (.inr (.inl v))))), (hq, .inl (cI, 12, .inl (fun j => nI (ln j)))), (qo, .inl (cJ, 1, .inr (.inl oL)))] zz) := by
  refine met_of_vx (vx_ofWH (cc := cL_stand) (maxL := 4) (ret := some .int) (hh := [(0, 9, 12, 13)]) (by decide) rfl ?_)
  intro p e s m args below meth c s₁ B hml hv
  obtain ⟨rfl, hX, hN, hsz_, hP, hK, hD0⟩ := hv
  have hx := B.exec
  have hb := B.bytes
  have hr := B.returns
  have hts := atoms_spec (ws := wsL_stand) B.pre
  have hown : s.vm.findClass RL = some m.cls := findClass_of_methodNamed B.named
  have hlocks := B.notSynchronized
  have htab := vx_table (x := yL_stand) (hh := [(0, 9, 12, 13)]) B (hts _ List.mem_cons_self)
  subst hsz_
  have hD := hD0.self (sz := s.heap.size)
  generalize hAe : va_A [(h0, .inr (1, [.ref hn, .ref hd, .ref hq, .int (b2i go), .int mv])), (hn, .inl (cZ, 165, .inl (fun j => b2i (nb j)))), (hd, .inl (cD, 165, .inr (.inr (.inr (.inl v))))), (hq, .inl (cI, 12, .inl (fun j => nI (ln j)))), (qo, .inl (cJ, 1, .inr (.inl oL)))] s.heap.size = A at hD ⊢
  have hA : ∀ q : Nat, s.heap.size ≤ q → A q := fun q h => by rw [← hAe]; exact Or.inr h
  have hS : va_S A s.heap s.heap [] := va_S.rf
  have hl := lv_entry ([.ref h0, .int (nI g), .ref qo]) (n := 4) (Nat.le_of_ble_eq_true rfl)
  rw [lg_entry_eq]
  generalize (lg_sl ([.ref h0, .int (nI g), .ref qo]) ++ List.replicate (4 - (lg_sl ([.ref h0, .int (nI g), .ref qo])).length) Slot.unset).toArray = ls at hl ⊢
  have hl : lv_has ls 4 [(0, .ref h0), (1, .int (nI g)), (2, .ref qo)] := hl
  refine lv_aload_n hx hb dL_stand_0 rfl (lv_at hl 2 rfl) ?_
  refine lv_iconst (v := nI 0) hx hb dL_stand_1 (by decide) ?_
  refine lv_aload_n hx hb dL_stand_2 rfl (lv_at hl 0 rfl) ?_
  refine lv_iload_n hx hb dL_stand_3 rfl (lv_at hl 1 rfl) ?_
  have hPc : va_P D vwCl (WB h0 hn hd hq cZ cD cI nb v ln go mv) s.heap := hP.sub [0, 1, 2, 3] rfl
  have hDc : va_D A (WB h0 hn hd hq cZ cD cI nb v ln go mv) := hD.sub [0, 1, 2, 3] (by decide) rfl
  have hKc : va_K D vwCl (TY cZ cD cI) s := hK.sub [0, 1, 2] rfl
  refine rdm_calli (va_runV (As := [.int (nI g)]) (rest := [.int (nI 0), .ref qo]) ⟨hx, hb, hml, hown, hts⟩ (c_X0_stand l D h0 hn hd hq cZ cD cI nb v ln go mv hln hl0 g hg) (cwV 1 hts gL_stand_X0_stand rfl rfl rfl (by decide +kernel) ⟨Nat.le_of_ble_eq_true rfl, Nat.le_of_ble_eq_true rfl⟩) ⟨fun a U g mk q => ⟨q.1, xOK_call q.2.1 g mk a, q.2.2.1, va_K.moved (u := U) (U := U.calling g mk a) (Vm.Alike.refl U.vm) q.2.2.2⟩, va_recv hKc hPc (ci := 1) (q0 := 0) rfl rfl, fun U hU hW => ⟨rfl, xOK_at hX hU hW, by rw [hU]; exact hPc, va_K.moved hW.alike hKc⟩⟩ rfl rfl hl.1 rfl (lv_room (Nat.le_of_ble_eq_true rfl)) dL_stand_4 ⟨Nat.le_of_ble_eq_true rfl, Nat.le_of_ble_eq_true rfl⟩) (fun r_1 hr_1 => ?_)
  subst hr_1
  refine lv_i2l hx hb dL_stand_7 rfl ?_
  refine kn_last hx hb hK hP hD hS 4 3 rfl rfl (by omega) (by decide) dL_stand_8 (fun H locs hP hD hS => ?_)
  have hP : va_P D vwCl ([(h0, .inr (1, [.ref hn, .ref hd, .ref hq, .int (b2i go), .int mv])), (hn, .inl (cZ, 165, .inl (fun j => b2i (nb j)))), (hd, .inl (cD, 165, .inr (.inr (.inr (.inl v))))), (hq, .inl (cI, 12, .inl (fun j => nI (ln j)))), (qo, .inl (cJ, 1, .inr (.inl (up oL 0 (Int32.toInt64 (nI (sL nb v ln g + sW nb v ln g)))))))]) H := hP
  have hD : va_D A ([(h0, .inr (1, [.ref hn, .ref hd, .ref hq, .int (b2i go), .int mv])), (hn, .inl (cZ, 165, .inl (fun j => b2i (nb j)))), (hd, .inl (cD, 165, .inr (.inr (.inr (.inl v))))), (hq, .inl (cI, 12, .inl (fun j => nI (ln j)))), (qo, .inl (cJ, 1, .inr (.inl (up oL 0 (Int32.toInt64 (nI (sL nb v ln g + sW nb v ln g)))))))]) := hD
  refine lv_goto (tgt := 15) hx hb dL_stand_9 (by decide) ?_
  refine lv_iconst (v := nI 0) hx hb dL_stand_15 (by decide) ?_
  refine vx_ret ?_
  refine W.widen (k := 1) (n := 6) (Nat.le_of_ble_eq_true rfl) (Nat.le_of_ble_eq_true rfl) ?_
  exact W.iret (v := nI 0) hx hb hr (fun t9 ht9 hW9 => ⟨⟨_, rfl, rfl, by rw [ht9]; exact hP⟩, hS.F ht9⟩) hS.2.2 dL_stand_16
set_option maxHeartbeats 4000000 in
set_option maxRecDepth 100000 in
theorem w_stand_bad (l : Launch) (D : va_G) (h0 hn hd hq qo : Nat) (cZ cD cI cJ : ClassId) (nb : Nat → Bool) (v : Nat → UInt64) (ln : Nat → Nat) (go : Bool) (mv : Int32) (oL : Nat → Int64) (hln : ∀ j, ln j ≤ 12) (hl0 : l.stackTraces = false) (zz : Nat) (x0 : Int32) (hbad : ¬ (InN 6 x0)) : Met l yL_stand wsL_stand ({ frames := 8, cells := 1, slots := 6, locals := 123 }) (va_Pc [.ref h0, .int x0, .ref qo] (fun U => xOK U ∧ xN U ∧ U.heap.size = zz ∧ va_P D vwCl [(h0, .inr (1, [.ref hn, .ref hd, .ref hq, .int (b2i go), .int mv])), (hn, .inl (cZ, 165, .inl (fun j => b2i (nb j)))), (hd, .inl (cD, 165, .inr (.inr (.inr (.inl v))))), (hq, .inl (cI, 12, .inl (fun j => nI (ln j)))), (qo, .inl (cJ, 1, .inr (.inl oL)))] U.heap ∧ va_K D vwCl (TYL cZ cD cI cJ) U ∧ va_D (fun _ => True) [(h0, .inr (1, [.ref hn, .ref hd, .ref hq, .int (b2i go), .int mv])), (hn, .inl (cZ, 165, .inl (fun j => b2i (nb j)))), (hd, .inl (cD, 165, .inr (.inr (.inr (.inl v))))), (hq, .inl (cI, 12, .inl (fun j => nI (ln j)))), (qo, .inl (cJ, 1, .inr (.inl oL)))])) (wr_Qi (fun r => r = nI 1) (fun H => va_P D vwCl [(h0, .inr (1, [.ref hn, .ref hd, .ref hq, .int (b2i go), .int mv])), (hn, .inl (cZ, 165, .inl (fun j => b2i (nb j)))), (hd, .inl (cD, 165, .inr (.inr (.inr (.inl v))))), (hq, .inl (cI, 12, .inl (fun j => nI (ln j)))), (qo, .inl (cJ, 1, .inr (.inl oL)))] H) (va_A [(h0, .inr (1, [.ref hn, .ref hd, .ref hq, .int (b2i go), .int mv])), (hn, .inl (cZ, 165, .inl (fun j => b2i (nb j)))), (hd, .inl (cD, 165, .inr (.inr (.inr (.inl v))))), (hq, .inl (cI, 12, .inl (fun j => nI (ln j)))), (qo, .inl (cJ, 1, .inr (.inl oL)))] zz)) 1 6 (va_A [(h0, .inr (1, [.ref hn, .ref hd, .ref hq, .int (b2i go), .int mv])), (hn, .inl (cZ, 165, .inl (fun j => b2i (nb j)))), (hd, .inl (cD, 165, .inr (.inr (.inr (.inl v))))), (hq, .inl (cI, 12, .inl (fun j => nI (ln j)))), (qo, .inl (cJ, 1, .inr (.inl oL)))] zz) := by
  refine met_of_vx (vx_ofWH (cc := cL_stand) (maxL := 4) (ret := some .int) (hh := [(0, 9, 12, 13)]) (by decide) rfl ?_)
  intro p e s m args below meth c s₁ B hml hv
  obtain ⟨rfl, hX, hN, hsz_, hP, hK, hD0⟩ := hv
  have hx := B.exec
  have hb := B.bytes
  have hr := B.returns
  have hts := atoms_spec (ws := wsL_stand) B.pre
  have hown : s.vm.findClass RL = some m.cls := findClass_of_methodNamed B.named
  have hlocks := B.notSynchronized
  have htab := vx_table (x := yL_stand) (hh := [(0, 9, 12, 13)]) B (hts _ List.mem_cons_self)
  subst hsz_
  have hD := hD0.self (sz := s.heap.size)
  generalize hAe : va_A [(h0, .inr (1, [.ref hn, .ref hd, .ref hq, .int (b2i go), .int mv])), (hn, .inl (cZ, 165, .inl (fun j => b2i (nb j)))), (hd, .inl (cD, 165, .inr (.inr (.inr (.inl v))))), (hq, .inl (cI, 12, .inl (fun j => nI (ln j)))), (qo, .inl (cJ, 1, .inr (.inl oL)))] s.heap.size = A at hD ⊢
  have hA : ∀ q : Nat, s.heap.size ≤ q → A q := fun q h => by rw [← hAe]; exact Or.inr h
  have hS : va_S A s.heap s.heap [] := va_S.rf
  have hl := lv_entry ([.ref h0, .int x0, .ref qo]) (n := 4) (Nat.le_of_ble_eq_true rfl)
  rw [lg_entry_eq]
  generalize (lg_sl ([.ref h0, .int x0, .ref qo]) ++ List.replicate (4 - (lg_sl ([.ref h0, .int x0, .ref qo])).length) Slot.unset).toArray = ls at hl ⊢
  have hl : lv_has ls 4 [(0, .ref h0), (1, .int x0), (2, .ref qo)] := hl
  refine lv_aload_n hx hb dL_stand_0 rfl (lv_at hl 2 rfl) ?_
  refine lv_iconst (v := nI 0) hx hb dL_stand_1 (by decide) ?_
  refine lv_aload_n hx hb dL_stand_2 rfl (lv_at hl 0 rfl) ?_
  refine lv_iload_n hx hb dL_stand_3 rfl (lv_at hl 1 rfl) ?_
  have hPc : va_P D vwCl (WB h0 hn hd hq cZ cD cI nb v ln go mv) s.heap := hP.sub [0, 1, 2, 3] rfl
  have hDc : va_D A (WB h0 hn hd hq cZ cD cI nb v ln go mv) := hD.sub [0, 1, 2, 3] (by decide) rfl
  have hKc : va_K D vwCl (TY cZ cD cI) s := hK.sub [0, 1, 2] rfl
  refine kv_never (vx_runV (As := [.int x0]) (rest := [.int (nI 0), .ref qo]) ⟨hx, hb, hml, hown, hts⟩ (c_X0_stand_bad l D h0 hn hd hq cZ cD cI nb v ln go mv hln hl0 x0 hbad) (cwV 1 hts gL_stand_X0_stand rfl rfl rfl (by decide +kernel) ⟨Nat.le_of_ble_eq_true rfl, Nat.le_of_ble_eq_true rfl⟩) ⟨fun a U g mk q => ⟨q.1, xOK_call q.2.1 g mk a, q.2.2.1, va_K.moved (u := U) (U := U.calling g mk a) (Vm.Alike.refl U.vm) q.2.2.2⟩, va_recv hKc hPc (ci := 1) (q0 := 0) rfl rfl, fun U hU hW => ⟨rfl, xOK_at hX hU hW, by rw [hU]; exact hPc, va_K.moved hW.alike hKc⟩⟩ rfl rfl hl.1 rfl (lv_room (Nat.le_of_ble_eq_true rfl)) dL_stand_4 ⟨Nat.le_of_ble_eq_true rfl, Nat.le_of_ble_eq_true rfl⟩) (fun E9 ce q9 H hE h1 h2 h3 h4 h5 => ?_)
  subst hE
  have hP : va_P D vwCl [(h0, .inr (1, [.ref hn, .ref hd, .ref hq, .int (b2i go), .int mv])), (hn, .inl (cZ, 165, .inl (fun j => b2i (nb j)))), (hd, .inl (cD, 165, .inr (.inr (.inr (.inl v))))), (hq, .inl (cI, 12, .inl (fun j => nI (ln j)))), (qo, .inl (cJ, 1, .inr (.inl oL)))] H := hP.kept (fun k q hk => h2 q.1 (vx_lt hP hk))
  have hS : va_S A s.heap H [] := ⟨h1, fun q hq _ => h2 q hq, fun q hq => absurd hq List.not_mem_nil⟩
  refine vx_catch (E := IAE) (name := IAE) hown [] ⟨0, 9, 12, 13⟩ [] htab (fun z hz => absurd hz List.not_mem_nil) (by decide) (by decide) (hts (.classLink RL 13 IAE) (by decide +kernel)) (xC.word hX.2.2.2.1) h3 h4 h5 ?_
  show W p l e _ s m _ below meth c H [] _ _ _ (F0 m 12 ls [.ref q9])
  refine lv_astore_n (lv' := [(3, .ref q9), (0, .ref h0), (1, .int x0), (2, .ref qo)]) hx hb dL_stand_12 rfl hl (by decide) rfl (fun ls hl => ?_)
  refine lv_iconst (v := nI 1) hx hb dL_stand_13 (by decide) ?_
  refine vx_ret ?_
  refine W.widen (k := 1) (n := 6) (Nat.le_of_ble_eq_true rfl) (Nat.le_of_ble_eq_true rfl) ?_
  exact W.iret (v := nI 1) hx hb hr (fun t9 ht9 hW9 => ⟨⟨_, rfl, rfl, by rw [ht9]; exact hP⟩, hS.F ht9⟩) hS.2.2 dL_stand_14
set_option maxHeartbeats 4000000 in
set_option maxRecDepth 100000 in
theorem w_order (l : Launch) (D : va_G) (h0 hn hd hq qo : Nat) (cZ cD cI cJ : ClassId) (nb : Nat → Bool) (v : Nat → UInt64) (ln : Nat → Nat) (go : Bool) (mv : Int32) (oL : Nat → Int64) (hln : ∀ j, ln j ≤ 12) (hl0 : l.stackTraces = false) (zz : Nat) (k : Nat) (hk : k < 6) : Met l yL_order wsL_order ({ frames := 5, cells := 0, slots := 0, locals := 119 }) (va_Pc [.ref h0, .int (nI k), .ref qo] (fun U => xOK U ∧ xN U ∧ U.heap.size = zz ∧ va_P D vwCl [(h0, .inr (1, [.ref hn, .ref hd, .ref hq, .int (b2i go), .int mv])), (hn, .inl (cZ, 165, .inl (fun j => b2i (nb j)))), (hd, .inl (cD, 165, .inr (.inr (.inr (.inl v))))), (hq, .inl (cI, 12, .inl (fun j => nI (ln j)))), (qo, .inl (cJ, 1, .inr (.inl oL)))] U.heap ∧ va_K D vwCl (TYL cZ cD cI cJ) U ∧ va_D (fun _ => True) [(h0, .inr (1, [.ref hn, .ref hd, .ref hq, .int (b2i go), .int mv])), (hn, .inl (cZ, 165, .inl (fun j => b2i (nb j)))), (hd, .inl (cD, 165, .inr (.inr (.inr (.inl v))))), (hq, .inl (cI, 12, .inl (fun j => nI (ln j)))), (qo, .inl (cJ, 1, .inr (.inl oL)))])) (wr_Qi (fun r => r = nI 0) (fun H => va_P D vwCl [(h0, .inr (1, [.ref hn, .ref hd, .ref hq, .int (b2i go), .int mv])), (hn, .inl (cZ, 165, .inl (fun j => b2i (nb j)))), (hd, .inl (cD, 165, .inr (.inr (.inr (.inl v))))), (hq, .inl (cI, 12, .inl (fun j => nI (ln j)))), (qo, .inl (cJ, 1, .inr (.inl (up oL 0 (Int32.toInt64 (fo (ga nb v ln) k 6))))))] H) (va_A [(h0, .inr (1, [.ref hn, .ref hd, .ref hq, .int (b2i go), .int mv])), (hn, .inl (cZ, 165, .inl (fun j => b2i (nb j)))), (hd, .inl (cD, 165, .inr (.inr (.inr (.inl v))))), (hq, .inl (cI, 12, .inl (fun j => nI (ln j)))), (qo, .inl (cJ, 1, .inr (.inl oL)))] zz)) 0 0 (va_A [(h0, .inr (1, [.ref hn, .ref hd, .ref hq, .int (b2i go), .int mv])), (hn, .inl (cZ, 165, .inl (fun j => b2i (nb j)))), (hd, .inl (cD, 165, .inr (.inr (.inr (.inl v))))), (hq, .inl (cI, 12, .inl (fun j => nI (ln j)))), (qo, .inl (cJ, 1, .inr (.inl oL)))] zz) := by
  refine met_of_vx (vx_ofWH (cc := cL_order) (maxL := 4) (ret := some .int) (hh := [(0, 9, 12, 13)]) (by decide) rfl ?_)
  intro p e s m args below meth c s₁ B hml hv
  obtain ⟨rfl, hX, hN, hsz_, hP, hK, hD0⟩ := hv
  have hx := B.exec
  have hb := B.bytes
  have hr := B.returns
  have hts := atoms_spec (ws := wsL_order) B.pre
  have hown : s.vm.findClass RL = some m.cls := findClass_of_methodNamed B.named
  have hlocks := B.notSynchronized
  have htab := vx_table (x := yL_order) (hh := [(0, 9, 12, 13)]) B (hts _ List.mem_cons_self)
  subst hsz_
  have hD := hD0.self (sz := s.heap.size)
  generalize hAe : va_A [(h0, .inr (1, [.ref hn, .ref hd, .ref hq, .int (b2i go), .int mv])), (hn, .inl (cZ, 165, .inl (fun j => b2i (nb j)))), (hd, .inl (cD, 165, .inr (.inr (.inr (.inl v))))), (hq, .inl (cI, 12, .inl (fun j => nI (ln j)))), (qo, .inl (cJ, 1, .inr (.inl oL)))] s.heap.size = A at hD ⊢
  have hA : ∀ q : Nat, s.heap.size ≤ q → A q := fun q h => by rw [← hAe]; exact Or.inr h
  have hS : va_S A s.heap s.heap [] := va_S.rf
  have hl := lv_entry ([.ref h0, .int (nI k), .ref qo]) (n := 4) (Nat.le_of_ble_eq_true rfl)
  rw [lg_entry_eq]
  generalize (lg_sl ([.ref h0, .int (nI k), .ref qo]) ++ List.replicate (4 - (lg_sl ([.ref h0, .int (nI k), .ref qo])).length) Slot.unset).toArray = ls at hl ⊢
  have hl : lv_has ls 4 [(0, .ref h0), (1, .int (nI k)), (2, .ref qo)] := hl
  refine lv_aload_n hx hb dL_order_0 rfl (lv_at hl 2 rfl) ?_
  refine lv_iconst (v := nI 0) hx hb dL_order_1 (by decide) ?_
  refine lv_aload_n hx hb dL_order_2 rfl (lv_at hl 0 rfl) ?_
  refine lv_iload_n hx hb dL_order_3 rfl (lv_at hl 1 rfl) ?_
  have hPc : va_P D vwCl (WB h0 hn hd hq cZ cD cI nb v ln go mv) s.heap := hP.sub [0, 1, 2, 3] rfl
  have hDc : va_D A (WB h0 hn hd hq cZ cD cI nb v ln go mv) := hD.sub [0, 1, 2, 3] (by decide) rfl
  have hKc : va_K D vwCl (TY cZ cD cI) s := hK.sub [0, 1, 2] rfl
  refine rdm_calli (va_runV (As := [.int (nI k)]) (rest := [.int (nI 0), .ref qo]) ⟨hx, hb, hml, hown, hts⟩ (c_X0_order l D h0 hn hd hq cZ cD cI nb v ln go mv hln hl0 k hk) (cwV 1 hts gL_order_X0_order rfl rfl rfl (by decide +kernel) ⟨Nat.le_of_ble_eq_true rfl, Nat.le_of_ble_eq_true rfl⟩) ⟨fun a U g mk q => ⟨q.1, xOK_call q.2.1 g mk a, q.2.2.1, va_K.moved (u := U) (U := U.calling g mk a) (Vm.Alike.refl U.vm) q.2.2.2⟩, va_recv hKc hPc (ci := 1) (q0 := 0) rfl rfl, fun U hU hW => ⟨rfl, xOK_at hX hU hW, by rw [hU]; exact hPc, va_K.moved hW.alike hKc⟩⟩ rfl rfl hl.1 rfl (lv_room (Nat.le_of_ble_eq_true rfl)) dL_order_4 ⟨Nat.le_of_ble_eq_true rfl, Nat.le_of_ble_eq_true rfl⟩) (fun r_1 hr_1 => ?_)
  subst hr_1
  refine lv_i2l hx hb dL_order_7 rfl ?_
  refine kn_last hx hb hK hP hD hS 4 3 rfl rfl (by omega) (by decide) dL_order_8 (fun H locs hP hD hS => ?_)
  have hP : va_P D vwCl ([(h0, .inr (1, [.ref hn, .ref hd, .ref hq, .int (b2i go), .int mv])), (hn, .inl (cZ, 165, .inl (fun j => b2i (nb j)))), (hd, .inl (cD, 165, .inr (.inr (.inr (.inl v))))), (hq, .inl (cI, 12, .inl (fun j => nI (ln j)))), (qo, .inl (cJ, 1, .inr (.inl (up oL 0 (Int32.toInt64 (fo (ga nb v ln) k 6))))))]) H := hP
  have hD : va_D A ([(h0, .inr (1, [.ref hn, .ref hd, .ref hq, .int (b2i go), .int mv])), (hn, .inl (cZ, 165, .inl (fun j => b2i (nb j)))), (hd, .inl (cD, 165, .inr (.inr (.inr (.inl v))))), (hq, .inl (cI, 12, .inl (fun j => nI (ln j)))), (qo, .inl (cJ, 1, .inr (.inl (up oL 0 (Int32.toInt64 (fo (ga nb v ln) k 6))))))]) := hD
  refine lv_goto (tgt := 15) hx hb dL_order_9 (by decide) ?_
  refine lv_iconst (v := nI 0) hx hb dL_order_15 (by decide) ?_
  refine vx_ret ?_
  refine W.widen (k := 0) (n := 0) (Nat.le_of_ble_eq_true rfl) (Nat.le_of_ble_eq_true rfl) ?_
  exact W.iret (v := nI 0) hx hb hr (fun t9 ht9 hW9 => ⟨⟨_, rfl, rfl, by rw [ht9]; exact hP⟩, hS.F ht9⟩) hS.2.2 dL_order_16
set_option maxHeartbeats 4000000 in
set_option maxRecDepth 100000 in
theorem w_order_bad (l : Launch) (D : va_G) (h0 hn hd hq qo : Nat) (cZ cD cI cJ : ClassId) (nb : Nat → Bool) (v : Nat → UInt64) (ln : Nat → Nat) (go : Bool) (mv : Int32) (oL : Nat → Int64) (hln : ∀ j, ln j ≤ 12) (hl0 : l.stackTraces = false) (zz : Nat) (x0 : Int32) (hbad : ¬ (InN 6 x0)) : Met l yL_order wsL_order ({ frames := 7, cells := 1, slots := 6, locals := 105 }) (va_Pc [.ref h0, .int x0, .ref qo] (fun U => xOK U ∧ xN U ∧ U.heap.size = zz ∧ va_P D vwCl [(h0, .inr (1, [.ref hn, .ref hd, .ref hq, .int (b2i go), .int mv])), (hn, .inl (cZ, 165, .inl (fun j => b2i (nb j)))), (hd, .inl (cD, 165, .inr (.inr (.inr (.inl v))))), (hq, .inl (cI, 12, .inl (fun j => nI (ln j)))), (qo, .inl (cJ, 1, .inr (.inl oL)))] U.heap ∧ va_K D vwCl (TYL cZ cD cI cJ) U ∧ va_D (fun _ => True) [(h0, .inr (1, [.ref hn, .ref hd, .ref hq, .int (b2i go), .int mv])), (hn, .inl (cZ, 165, .inl (fun j => b2i (nb j)))), (hd, .inl (cD, 165, .inr (.inr (.inr (.inl v))))), (hq, .inl (cI, 12, .inl (fun j => nI (ln j)))), (qo, .inl (cJ, 1, .inr (.inl oL)))])) (wr_Qi (fun r => r = nI 1) (fun H => va_P D vwCl [(h0, .inr (1, [.ref hn, .ref hd, .ref hq, .int (b2i go), .int mv])), (hn, .inl (cZ, 165, .inl (fun j => b2i (nb j)))), (hd, .inl (cD, 165, .inr (.inr (.inr (.inl v))))), (hq, .inl (cI, 12, .inl (fun j => nI (ln j)))), (qo, .inl (cJ, 1, .inr (.inl oL)))] H) (va_A [(h0, .inr (1, [.ref hn, .ref hd, .ref hq, .int (b2i go), .int mv])), (hn, .inl (cZ, 165, .inl (fun j => b2i (nb j)))), (hd, .inl (cD, 165, .inr (.inr (.inr (.inl v))))), (hq, .inl (cI, 12, .inl (fun j => nI (ln j)))), (qo, .inl (cJ, 1, .inr (.inl oL)))] zz)) 1 6 (va_A [(h0, .inr (1, [.ref hn, .ref hd, .ref hq, .int (b2i go), .int mv])), (hn, .inl (cZ, 165, .inl (fun j => b2i (nb j)))), (hd, .inl (cD, 165, .inr (.inr (.inr (.inl v))))), (hq, .inl (cI, 12, .inl (fun j => nI (ln j)))), (qo, .inl (cJ, 1, .inr (.inl oL)))] zz) := by
  refine met_of_vx (vx_ofWH (cc := cL_order) (maxL := 4) (ret := some .int) (hh := [(0, 9, 12, 13)]) (by decide) rfl ?_)
  intro p e s m args below meth c s₁ B hml hv
  obtain ⟨rfl, hX, hN, hsz_, hP, hK, hD0⟩ := hv
  have hx := B.exec
  have hb := B.bytes
  have hr := B.returns
  have hts := atoms_spec (ws := wsL_order) B.pre
  have hown : s.vm.findClass RL = some m.cls := findClass_of_methodNamed B.named
  have hlocks := B.notSynchronized
  have htab := vx_table (x := yL_order) (hh := [(0, 9, 12, 13)]) B (hts _ List.mem_cons_self)
  subst hsz_
  have hD := hD0.self (sz := s.heap.size)
  generalize hAe : va_A [(h0, .inr (1, [.ref hn, .ref hd, .ref hq, .int (b2i go), .int mv])), (hn, .inl (cZ, 165, .inl (fun j => b2i (nb j)))), (hd, .inl (cD, 165, .inr (.inr (.inr (.inl v))))), (hq, .inl (cI, 12, .inl (fun j => nI (ln j)))), (qo, .inl (cJ, 1, .inr (.inl oL)))] s.heap.size = A at hD ⊢
  have hA : ∀ q : Nat, s.heap.size ≤ q → A q := fun q h => by rw [← hAe]; exact Or.inr h
  have hS : va_S A s.heap s.heap [] := va_S.rf
  have hl := lv_entry ([.ref h0, .int x0, .ref qo]) (n := 4) (Nat.le_of_ble_eq_true rfl)
  rw [lg_entry_eq]
  generalize (lg_sl ([.ref h0, .int x0, .ref qo]) ++ List.replicate (4 - (lg_sl ([.ref h0, .int x0, .ref qo])).length) Slot.unset).toArray = ls at hl ⊢
  have hl : lv_has ls 4 [(0, .ref h0), (1, .int x0), (2, .ref qo)] := hl
  refine lv_aload_n hx hb dL_order_0 rfl (lv_at hl 2 rfl) ?_
  refine lv_iconst (v := nI 0) hx hb dL_order_1 (by decide) ?_
  refine lv_aload_n hx hb dL_order_2 rfl (lv_at hl 0 rfl) ?_
  refine lv_iload_n hx hb dL_order_3 rfl (lv_at hl 1 rfl) ?_
  have hPc : va_P D vwCl (WB h0 hn hd hq cZ cD cI nb v ln go mv) s.heap := hP.sub [0, 1, 2, 3] rfl
  have hDc : va_D A (WB h0 hn hd hq cZ cD cI nb v ln go mv) := hD.sub [0, 1, 2, 3] (by decide) rfl
  have hKc : va_K D vwCl (TY cZ cD cI) s := hK.sub [0, 1, 2] rfl
  refine kv_never (vx_runV (As := [.int x0]) (rest := [.int (nI 0), .ref qo]) ⟨hx, hb, hml, hown, hts⟩ (c_X0_order_bad l D h0 hn hd hq cZ cD cI nb v ln go mv hln hl0 x0 hbad) (cwV 1 hts gL_order_X0_order rfl rfl rfl (by decide +kernel) ⟨Nat.le_of_ble_eq_true rfl, Nat.le_of_ble_eq_true rfl⟩) ⟨fun a U g mk q => ⟨q.1, xOK_call q.2.1 g mk a, q.2.2.1, va_K.moved (u := U) (U := U.calling g mk a) (Vm.Alike.refl U.vm) q.2.2.2⟩, va_recv hKc hPc (ci := 1) (q0 := 0) rfl rfl, fun U hU hW => ⟨rfl, xOK_at hX hU hW, by rw [hU]; exact hPc, va_K.moved hW.alike hKc⟩⟩ rfl rfl hl.1 rfl (lv_room (Nat.le_of_ble_eq_true rfl)) dL_order_4 ⟨Nat.le_of_ble_eq_true rfl, Nat.le_of_ble_eq_true rfl⟩) (fun E9 ce q9 H hE h1 h2 h3 h4 h5 => ?_)
  subst hE
  have hP : va_P D vwCl [(h0, .inr (1, [.ref hn, .ref hd, .ref hq, .int (b2i go), .int mv])), (hn, .inl (cZ, 165, .inl (fun j => b2i (nb j)))), (hd, .inl (cD, 165, .inr (.inr (.inr (.inl v))))), (hq, .inl (cI, 12, .inl (fun j => nI (ln j)))), (qo, .inl (cJ, 1, .inr (.inl oL)))] H := hP.kept (fun k q hk => h2 q.1 (vx_lt hP hk))
  have hS : va_S A s.heap H [] := ⟨h1, fun q hq _ => h2 q hq, fun q hq => absurd hq List.not_mem_nil⟩
  refine vx_catch (E := IAE) (name := IAE) hown [] ⟨0, 9, 12, 13⟩ [] htab (fun z hz => absurd hz List.not_mem_nil) (by decide) (by decide) (hts (.classLink RL 13 IAE) (by decide +kernel)) (xC.word hX.2.2.2.1) h3 h4 h5 ?_
  show W p l e _ s m _ below meth c H [] _ _ _ (F0 m 12 ls [.ref q9])
  refine lv_astore_n (lv' := [(3, .ref q9), (0, .ref h0), (1, .int x0), (2, .ref qo)]) hx hb dL_order_12 rfl hl (by decide) rfl (fun ls hl => ?_)
  refine lv_iconst (v := nI 1) hx hb dL_order_13 (by decide) ?_
  refine vx_ret ?_
  refine W.widen (k := 1) (n := 6) (Nat.le_of_ble_eq_true rfl) (Nat.le_of_ble_eq_true rfl) ?_
  exact W.iret (v := nI 1) hx hb hr (fun t9 ht9 hW9 => ⟨⟨_, rfl, rfl, by rw [ht9]; exact hP⟩, hS.F ht9⟩) hS.2.2 dL_order_14
set_option maxHeartbeats 4000000 in
set_option maxRecDepth 100000 in
theorem w_highest (l : Launch) (D : va_G) (h0 hn hd hq qo : Nat) (cZ cD cI : ClassId) (nb : Nat → Bool) (v : Nat → UInt64) (ln : Nat → Nat) (go : Bool) (mv : Int32) (oD : Nat → UInt64) (hln : ∀ j, ln j ≤ 12) (hl0 : l.stackTraces = false) (zz : Nat) (g : Nat) (hg : g < 6) (hsome : bs nb v (g * 2 + 0) 2 (ln (g * 2 + 0)) ≠ 164) : Met l yL_highest wsL_highest ({ frames := 8, cells := 1, slots := 6, locals := 123 }) (va_Pc [.ref h0, .int (nI g), .ref qo] (fun U => xOK U ∧ xN U ∧ U.heap.size = zz ∧ va_P D vwCl [(h0, .inr (1, [.ref hn, .ref hd, .ref hq, .int (b2i go), .int mv])), (hn, .inl (cZ, 165, .inl (fun j => b2i (nb j)))), (hd, .inl (cD, 165, .inr (.inr (.inr (.inl v))))), (hq, .inl (cI, 12, .inl (fun j => nI (ln j)))), (qo, .inl (cD, 1, .inr (.inr (.inr (.inl oD)))))] U.heap ∧ va_K D vwCl (TY cZ cD cI) U ∧ va_D (fun _ => True) [(h0, .inr (1, [.ref hn, .ref hd, .ref hq, .int (b2i go), .int mv])), (hn, .inl (cZ, 165, .inl (fun j => b2i (nb j)))), (hd, .inl (cD, 165, .inr (.inr (.inr (.inl v))))), (hq, .inl (cI, 12, .inl (fun j => nI (ln j)))), (qo, .inl (cD, 1, .inr (.inr (.inr (.inl oD)))))])) (wr_Qi (fun r => r = nI 0) (fun H => va_P D vwCl [(h0, .inr (1, [.ref hn, .ref hd, .ref hq, .int (b2i go), .int mv])), (hn, .inl (cZ, 165, .inl (fun j => b2i (nb j)))), (hd, .inl (cD, 165, .inr (.inr (.inr (.inl v))))), (hq, .inl (cI, 12, .inl (fun j => nI (ln j)))), (qo, .inl (cD, 1, .inr (.inr (.inr (.inl (up oD 0 (v (bs nb v (g * 2 + 0) 2 (ln (g * 2 + 0))))))))))] H) (va_A [(h0, .inr (1, [.ref hn, .ref hd, .ref hq, .int (b2i go), .int mv])), (hn, .inl (cZ, 165, .inl (fun j => b2i (nb j)))), (hd, .inl (cD, 165, .inr (.inr (.inr (.inl v))))), (hq, .inl (cI, 12, .inl (fun j => nI (ln j)))), (qo, .inl (cD, 1, .inr (.inr (.inr (.inl oD)))))] zz)) 1 6 (va_A [(h0, .inr (1, [.ref hn, .ref hd, .ref hq, .int (b2i go), .int mv])), (hn, .inl (cZ, 165, .inl (fun j => b2i (nb j)))), (hd, .inl (cD, 165, .inr (.inr (.inr (.inl v))))), (hq, .inl (cI, 12, .inl (fun j => nI (ln j)))), (qo, .inl (cD, 1, .inr (.inr (.inr (.inl oD)))))] zz) := by
  refine met_of_vx (vx_ofWH (cc := cL_highest) (maxL := 4) (ret := some .int) (hh := [(0, 8, 11, 13), (0, 8, 14, 77)]) (by decide) rfl ?_)
  intro p e s m args below meth c s₁ B hml hv
  obtain ⟨rfl, hX, hN, hsz_, hP, hK, hD0⟩ := hv
  have hx := B.exec
  have hb := B.bytes
  have hr := B.returns
  have hts := atoms_spec (ws := wsL_highest) B.pre
  have hown : s.vm.findClass RL = some m.cls := findClass_of_methodNamed B.named
  have hlocks := B.notSynchronized
  have htab := vx_table (x := yL_highest) (hh := [(0, 8, 11, 13), (0, 8, 14, 77)]) B (hts _ List.mem_cons_self)
  subst hsz_
  have hD := hD0.self (sz := s.heap.size)
  generalize hAe : va_A [(h0, .inr (1, [.ref hn, .ref hd, .ref hq, .int (b2i go), .int mv])), (hn, .inl (cZ, 165, .inl (fun j => b2i (nb j)))), (hd, .inl (cD, 165, .inr (.inr (.inr (.inl v))))), (hq, .inl (cI, 12, .inl (fun j => nI (ln j)))), (qo, .inl (cD, 1, .inr (.inr (.inr (.inl oD)))))] s.heap.size = A at hD ⊢
  have hA : ∀ q : Nat, s.heap.size ≤ q → A q := fun q h => by rw [← hAe]; exact Or.inr h
  have hS : va_S A s.heap s.heap [] := va_S.rf
  have hl := lv_entry ([.ref h0, .int (nI g), .ref qo]) (n := 4) (Nat.le_of_ble_eq_true rfl)
  rw [lg_entry_eq]
  generalize (lg_sl ([.ref h0, .int (nI g), .ref qo]) ++ List.replicate (4 - (lg_sl ([.ref h0, .int (nI g), .ref qo])).length) Slot.unset).toArray = ls at hl ⊢
  have hl : lv_has ls 4 [(0, .ref h0), (1, .int (nI g)), (2, .ref qo)] := hl
  refine lv_aload_n hx hb dL_highest_0 rfl (lv_at hl 2 rfl) ?_
  refine lv_iconst (v := nI 0) hx hb dL_highest_1 (by decide) ?_
  refine lv_aload_n hx hb dL_highest_2 rfl (lv_at hl 0 rfl) ?_
  refine lv_iload_n hx hb dL_highest_3 rfl (lv_at hl 1 rfl) ?_
  have hPc : va_P D vwCl (WB h0 hn hd hq cZ cD cI nb v ln go mv) s.heap := hP.sub [0, 1, 2, 3] rfl
  have hDc : va_D A (WB h0 hn hd hq cZ cD cI nb v ln go mv) := hD.sub [0, 1, 2, 3] (by decide) rfl
  have hKc : va_K D vwCl (TY cZ cD cI) s := hK.sub [0, 1, 2] rfl
  refine rdm_calld (va_runV (As := [.int (nI g)]) (rest := [.int (nI 0), .ref qo]) ⟨hx, hb, hml, hown, hts⟩ (c_X0_highest l D h0 hn hd hq cZ cD cI nb v ln go mv hln hl0 g hg hsome) (cwV 1 hts gL_highest_X0_highest rfl rfl rfl (by decide +kernel) ⟨Nat.le_of_ble_eq_true rfl, Nat.le_of_ble_eq_true rfl⟩) ⟨fun a U g mk q => ⟨q.1, xOK_call q.2.1 g mk a, q.2.2.1, va_K.moved (u := U) (U := U.calling g mk a) (Vm.Alike.refl U.vm) q.2.2.2⟩, va_recv hKc hPc (ci := 1) (q0 := 0) rfl rfl, fun U hU hW => ⟨rfl, xOK_at hX hU hW, by rw [hU]; exact hPc, va_K.moved hW.alike hKc⟩⟩ rfl rfl hl.1 rfl (lv_room (Nat.le_of_ble_eq_true rfl)) dL_highest_4 ⟨Nat.le_of_ble_eq_true rfl, Nat.le_of_ble_eq_true rfl⟩) (fun r_1 hr_1 => ?_)
  subst hr_1
  refine kn_dast hx hb hK hP hD hS 4 1 rfl rfl (by omega) (by decide) dL_highest_7 (fun H locs hP hD hS => ?_)
  have hP : va_P D vwCl ([(h0, .inr (1, [.ref hn, .ref hd, .ref hq, .int (b2i go), .int mv])), (hn, .inl (cZ, 165, .inl (fun j => b2i (nb j)))), (hd, .inl (cD, 165, .inr (.inr (.inr (.inl v))))), (hq, .inl (cI, 12, .inl (fun j => nI (ln j)))), (qo, .inl (cD, 1, .inr (.inr (.inr (.inl (up oD 0 (v (bs nb v (g * 2 + 0) 2 (ln (g * 2 + 0))))))))))]) H := hP
  have hD : va_D A ([(h0, .inr (1, [.ref hn, .ref hd, .ref hq, .int (b2i go), .int mv])), (hn, .inl (cZ, 165, .inl (fun j => b2i (nb j)))), (hd, .inl (cD, 165, .inr (.inr (.inr (.inl v))))), (hq, .inl (cI, 12, .inl (fun j => nI (ln j)))), (qo, .inl (cD, 1, .inr (.inr (.inr (.inl (up oD 0 (v (bs nb v (g * 2 + 0) 2 (ln (g * 2 + 0))))))))))]) := hD
  refine lv_goto (tgt := 17) hx hb dL_highest_8 (by decide) ?_
  refine lv_iconst (v := nI 0) hx hb dL_highest_17 (by decide) ?_
  refine vx_ret ?_
  refine W.widen (k := 1) (n := 6) (Nat.le_of_ble_eq_true rfl) (Nat.le_of_ble_eq_true rfl) ?_
  exact W.iret (v := nI 0) hx hb hr (fun t9 ht9 hW9 => ⟨⟨_, rfl, rfl, by rw [ht9]; exact hP⟩, hS.F ht9⟩) hS.2.2 dL_highest_18
set_option maxHeartbeats 4000000 in
set_option maxRecDepth 100000 in
theorem w_highest_none (l : Launch) (D : va_G) (h0 hn hd hq qo : Nat) (cZ cD cI : ClassId) (nb : Nat → Bool) (v : Nat → UInt64) (ln : Nat → Nat) (go : Bool) (mv : Int32) (oD : Nat → UInt64) (hln : ∀ j, ln j ≤ 12) (hl0 : l.stackTraces = false) (zz : Nat) (g : Nat) (hg : g < 6) (hnone : bs nb v (g * 2 + 0) 2 (ln (g * 2 + 0)) = 164) : Met l yL_highest wsL_highest ({ frames := 8, cells := 2, slots := 12, locals := 129 }) (va_Pc [.ref h0, .int (nI g), .ref qo] (fun U => xOK U ∧ xN U ∧ U.heap.size = zz ∧ va_P D vwCl [(h0, .inr (1, [.ref hn, .ref hd, .ref hq, .int (b2i go), .int mv])), (hn, .inl (cZ, 165, .inl (fun j => b2i (nb j)))), (hd, .inl (cD, 165, .inr (.inr (.inr (.inl v))))), (hq, .inl (cI, 12, .inl (fun j => nI (ln j)))), (qo, .inl (cD, 1, .inr (.inr (.inr (.inl oD)))))] U.heap ∧ va_K D vwCl (TY cZ cD cI) U ∧ va_D (fun _ => True) [(h0, .inr (1, [.ref hn, .ref hd, .ref hq, .int (b2i go), .int mv])), (hn, .inl (cZ, 165, .inl (fun j => b2i (nb j)))), (hd, .inl (cD, 165, .inr (.inr (.inr (.inl v))))), (hq, .inl (cI, 12, .inl (fun j => nI (ln j)))), (qo, .inl (cD, 1, .inr (.inr (.inr (.inl oD)))))])) (wr_Qi (fun r => r = nI 2) (fun H => va_P D vwCl [(h0, .inr (1, [.ref hn, .ref hd, .ref hq, .int (b2i go), .int mv])), (hn, .inl (cZ, 165, .inl (fun j => b2i (nb j)))), (hd, .inl (cD, 165, .inr (.inr (.inr (.inl v))))), (hq, .inl (cI, 12, .inl (fun j => nI (ln j)))), (qo, .inl (cD, 1, .inr (.inr (.inr (.inl oD)))))] H) (va_A [(h0, .inr (1, [.ref hn, .ref hd, .ref hq, .int (b2i go), .int mv])), (hn, .inl (cZ, 165, .inl (fun j => b2i (nb j)))), (hd, .inl (cD, 165, .inr (.inr (.inr (.inl v))))), (hq, .inl (cI, 12, .inl (fun j => nI (ln j)))), (qo, .inl (cD, 1, .inr (.inr (.inr (.inl oD)))))] zz)) 2 12 (va_A [(h0, .inr (1, [.ref hn, .ref hd, .ref hq, .int (b2i go), .int mv])), (hn, .inl (cZ, 165, .inl (fun j => b2i (nb j)))), (hd, .inl (cD, 165, .inr (.inr (.inr (.inl v))))), (hq, .inl (cI, 12, .inl (fun j => nI (ln j)))), (qo, .inl (cD, 1, .inr (.inr (.inr (.inl oD)))))] zz) := by
  refine met_of_vx (vx_ofWH (cc := cL_highest) (maxL := 4) (ret := some .int) (hh := [(0, 8, 11, 13), (0, 8, 14, 77)]) (by decide) rfl ?_)
  intro p e s m args below meth c s₁ B hml hv
  obtain ⟨rfl, hX, hN, hsz_, hP, hK, hD0⟩ := hv
  have hx := B.exec
  have hb := B.bytes
  have hr := B.returns
  have hts := atoms_spec (ws := wsL_highest) B.pre
  have hown : s.vm.findClass RL = some m.cls := findClass_of_methodNamed B.named
  have hlocks := B.notSynchronized
  have htab := vx_table (x := yL_highest) (hh := [(0, 8, 11, 13), (0, 8, 14, 77)]) B (hts _ List.mem_cons_self)
  subst hsz_
  have hD := hD0.self (sz := s.heap.size)
  generalize hAe : va_A [(h0, .inr (1, [.ref hn, .ref hd, .ref hq, .int (b2i go), .int mv])), (hn, .inl (cZ, 165, .inl (fun j => b2i (nb j)))), (hd, .inl (cD, 165, .inr (.inr (.inr (.inl v))))), (hq, .inl (cI, 12, .inl (fun j => nI (ln j)))), (qo, .inl (cD, 1, .inr (.inr (.inr (.inl oD)))))] s.heap.size = A at hD ⊢
  have hA : ∀ q : Nat, s.heap.size ≤ q → A q := fun q h => by rw [← hAe]; exact Or.inr h
  have hS : va_S A s.heap s.heap [] := va_S.rf
  have hl := lv_entry ([.ref h0, .int (nI g), .ref qo]) (n := 4) (Nat.le_of_ble_eq_true rfl)
  rw [lg_entry_eq]
  generalize (lg_sl ([.ref h0, .int (nI g), .ref qo]) ++ List.replicate (4 - (lg_sl ([.ref h0, .int (nI g), .ref qo])).length) Slot.unset).toArray = ls at hl ⊢
  have hl : lv_has ls 4 [(0, .ref h0), (1, .int (nI g)), (2, .ref qo)] := hl
  refine lv_aload_n hx hb dL_highest_0 rfl (lv_at hl 2 rfl) ?_
  refine lv_iconst (v := nI 0) hx hb dL_highest_1 (by decide) ?_
  refine lv_aload_n hx hb dL_highest_2 rfl (lv_at hl 0 rfl) ?_
  refine lv_iload_n hx hb dL_highest_3 rfl (lv_at hl 1 rfl) ?_
  have hPc : va_P D vwCl (WB h0 hn hd hq cZ cD cI nb v ln go mv) s.heap := hP.sub [0, 1, 2, 3] rfl
  have hDc : va_D A (WB h0 hn hd hq cZ cD cI nb v ln go mv) := hD.sub [0, 1, 2, 3] (by decide) rfl
  have hKc : va_K D vwCl (TY cZ cD cI) s := hK.sub [0, 1, 2] rfl
  refine kv_never (vx_runV (As := [.int (nI g)]) (rest := [.int (nI 0), .ref qo]) ⟨hx, hb, hml, hown, hts⟩ (c_X0_highest_none l D h0 hn hd hq cZ cD cI nb v ln go mv hln hl0 g hg hnone) (cwV 1 hts gL_highest_X0_highest rfl rfl rfl (by decide +kernel) ⟨Nat.le_of_ble_eq_true rfl, Nat.le_of_ble_eq_true rfl⟩) ⟨fun a U g mk q => ⟨q.1, xOK_call q.2.1 g mk a, q.2.2.1, va_K.moved (u := U) (U := U.calling g mk a) (Vm.Alike.refl U.vm) q.2.2.2⟩, va_recv hKc hPc (ci := 1) (q0 := 0) rfl rfl, fun U hU hW => ⟨rfl, xOK_at hX hU hW, by rw [hU]; exact hPc, va_K.moved hW.alike hKc⟩⟩ rfl rfl hl.1 rfl (lv_room (Nat.le_of_ble_eq_true rfl)) dL_highest_4 ⟨Nat.le_of_ble_eq_true rfl, Nat.le_of_ble_eq_true rfl⟩) (fun E9 ce q9 H hE h1 h2 h3 h4 h5 => ?_)
  subst hE
  have hP : va_P D vwCl [(h0, .inr (1, [.ref hn, .ref hd, .ref hq, .int (b2i go), .int mv])), (hn, .inl (cZ, 165, .inl (fun j => b2i (nb j)))), (hd, .inl (cD, 165, .inr (.inr (.inr (.inl v))))), (hq, .inl (cI, 12, .inl (fun j => nI (ln j)))), (qo, .inl (cD, 1, .inr (.inr (.inr (.inl oD)))))] H := hP.kept (fun k q hk => h2 q.1 (vx_lt hP hk))
  have hS : va_S A s.heap H [] := ⟨h1, fun q hq _ => h2 q hq, fun q hq => absurd hq List.not_mem_nil⟩
  refine vx_catch (E := NSE) (name := NSE) hown [⟨0, 8, 11, 13⟩] ⟨0, 8, 14, 77⟩ [] htab (fun z hz => (List.mem_cons.mp hz).elim (fun e9 => by rw [e9]; exact Or.inr ⟨by decide, IAE, hts (.classLink RL 13 IAE) (by decide +kernel), hN.2.1⟩) (fun hz => absurd hz List.not_mem_nil)) (by decide) (by decide) (hts (.classLink RL 77 NSE) (by decide +kernel)) (xC.word hX.2.2.2.2.2.2.2) h3 h4 h5 ?_
  show W p l e _ s m _ below meth c H [] _ _ _ (F0 m 14 ls [.ref q9])
  refine lv_astore_n (lv' := [(3, .ref q9), (0, .ref h0), (1, .int (nI g)), (2, .ref qo)]) hx hb dL_highest_14 rfl hl (by decide) rfl (fun ls hl => ?_)
  refine lv_iconst (v := nI 2) hx hb dL_highest_15 (by decide) ?_
  refine vx_ret ?_
  refine W.widen (k := 2) (n := 12) (Nat.le_of_ble_eq_true rfl) (Nat.le_of_ble_eq_true rfl) ?_
  exact W.iret (v := nI 2) hx hb hr (fun t9 ht9 hW9 => ⟨⟨_, rfl, rfl, by rw [ht9]; exact hP⟩, hS.F ht9⟩) hS.2.2 dL_highest_16
set_option maxHeartbeats 4000000 in
set_option maxRecDepth 100000 in
theorem w_highest_bad (l : Launch) (D : va_G) (h0 hn hd hq qo : Nat) (cZ cD cI : ClassId) (nb : Nat → Bool) (v : Nat → UInt64) (ln : Nat → Nat) (go : Bool) (mv : Int32) (oD : Nat → UInt64) (hln : ∀ j, ln j ≤ 12) (hl0 : l.stackTraces = false) (zz : Nat) (x0 : Int32) (hbad : ¬ (InN 6 x0)) : Met l yL_highest wsL_highest ({ frames := 8, cells := 1, slots := 6, locals := 123 }) (va_Pc [.ref h0, .int x0, .ref qo] (fun U => xOK U ∧ xN U ∧ U.heap.size = zz ∧ va_P D vwCl [(h0, .inr (1, [.ref hn, .ref hd, .ref hq, .int (b2i go), .int mv])), (hn, .inl (cZ, 165, .inl (fun j => b2i (nb j)))), (hd, .inl (cD, 165, .inr (.inr (.inr (.inl v))))), (hq, .inl (cI, 12, .inl (fun j => nI (ln j)))), (qo, .inl (cD, 1, .inr (.inr (.inr (.inl oD)))))] U.heap ∧ va_K D vwCl (TY cZ cD cI) U ∧ va_D (fun _ => True) [(h0, .inr (1, [.ref hn, .ref hd, .ref hq, .int (b2i go), .int mv])), (hn, .inl (cZ, 165, .inl (fun j => b2i (nb j)))), (hd, .inl (cD, 165, .inr (.inr (.inr (.inl v))))), (hq, .inl (cI, 12, .inl (fun j => nI (ln j)))), (qo, .inl (cD, 1, .inr (.inr (.inr (.inl oD)))))])) (wr_Qi (fun r => r = nI 1) (fun H => va_P D vwCl [(h0, .inr (1, [.ref hn, .ref hd, .ref hq, .int (b2i go), .int mv])), (hn, .inl (cZ, 165, .inl (fun j => b2i (nb j)))), (hd, .inl (cD, 165, .inr (.inr (.inr (.inl v))))), (hq, .inl (cI, 12, .inl (fun j => nI (ln j)))), (qo, .inl (cD, 1, .inr (.inr (.inr (.inl oD)))))] H) (va_A [(h0, .inr (1, [.ref hn, .ref hd, .ref hq, .int (b2i go), .int mv])), (hn, .inl (cZ, 165, .inl (fun j => b2i (nb j)))), (hd, .inl (cD, 165, .inr (.inr (.inr (.inl v))))), (hq, .inl (cI, 12, .inl (fun j => nI (ln j)))), (qo, .inl (cD, 1, .inr (.inr (.inr (.inl oD)))))] zz)) 1 6 (va_A [(h0, .inr (1, [.ref hn, .ref hd, .ref hq, .int (b2i go), .int mv])), (hn, .inl (cZ, 165, .inl (fun j => b2i (nb j)))), (hd, .inl (cD, 165, .inr (.inr (.inr (.inl v))))), (hq, .inl (cI, 12, .inl (fun j => nI (ln j)))), (qo, .inl (cD, 1, .inr (.inr (.inr (.inl oD)))))] zz) := by
  refine met_of_vx (vx_ofWH (cc := cL_highest) (maxL := 4) (ret := some .int) (hh := [(0, 8, 11, 13), (0, 8, 14, 77)]) (by decide) rfl ?_)
  intro p e s m args below meth c s₁ B hml hv
  obtain ⟨rfl, hX, hN, hsz_, hP, hK, hD0⟩ := hv
  have hx := B.exec
  have hb := B.bytes
  have hr := B.returns
  have hts := atoms_spec (ws := wsL_highest) B.pre
  have hown : s.vm.findClass RL = some m.cls := findClass_of_methodNamed B.named
  have hlocks := B.notSynchronized
  have htab := vx_table (x := yL_highest) (hh := [(0, 8, 11, 13), (0, 8, 14, 77)]) B (hts _ List.mem_cons_self)
  subst hsz_
  have hD := hD0.self (sz := s.heap.size)
  generalize hAe : va_A [(h0, .inr (1, [.ref hn, .ref hd, .ref hq, .int (b2i go), .int mv])), (hn, .inl (cZ, 165, .inl (fun j => b2i (nb j)))), (hd, .inl (cD, 165, .inr (.inr (.inr (.inl v))))), (hq, .inl (cI, 12, .inl (fun j => nI (ln j)))), (qo, .inl (cD, 1, .inr (.inr (.inr (.inl oD)))))] s.heap.size = A at hD ⊢
  have hA : ∀ q : Nat, s.heap.size ≤ q → A q := fun q h => by rw [← hAe]; exact Or.inr h
  have hS : va_S A s.heap s.heap [] := va_S.rf
  have hl := lv_entry ([.ref h0, .int x0, .ref qo]) (n := 4) (Nat.le_of_ble_eq_true rfl)
  rw [lg_entry_eq]
  generalize (lg_sl ([.ref h0, .int x0, .ref qo]) ++ List.replicate (4 - (lg_sl ([.ref h0, .int x0, .ref qo])).length) Slot.unset).toArray = ls at hl ⊢
  have hl : lv_has ls 4 [(0, .ref h0), (1, .int x0), (2, .ref qo)] := hl
  refine lv_aload_n hx hb dL_highest_0 rfl (lv_at hl 2 rfl) ?_
  refine lv_iconst (v := nI 0) hx hb dL_highest_1 (by decide) ?_
  refine lv_aload_n hx hb dL_highest_2 rfl (lv_at hl 0 rfl) ?_
  refine lv_iload_n hx hb dL_highest_3 rfl (lv_at hl 1 rfl) ?_
  have hPc : va_P D vwCl (WB h0 hn hd hq cZ cD cI nb v ln go mv) s.heap := hP.sub [0, 1, 2, 3] rfl
  have hDc : va_D A (WB h0 hn hd hq cZ cD cI nb v ln go mv) := hD.sub [0, 1, 2, 3] (by decide) rfl
  have hKc : va_K D vwCl (TY cZ cD cI) s := hK.sub [0, 1, 2] rfl
  refine kv_never (vx_runV (As := [.int x0]) (rest := [.int (nI 0), .ref qo]) ⟨hx, hb, hml, hown, hts⟩ (c_X0_highest_bad l D h0 hn hd hq cZ cD cI nb v ln go mv hln hl0 x0 hbad) (cwV 1 hts gL_highest_X0_highest rfl rfl rfl (by decide +kernel) ⟨Nat.le_of_ble_eq_true rfl, Nat.le_of_ble_eq_true rfl⟩) ⟨fun a U g mk q => ⟨q.1, xOK_call q.2.1 g mk a, q.2.2.1, va_K.moved (u := U) (U := U.calling g mk a) (Vm.Alike.refl U.vm) q.2.2.2⟩, va_recv hKc hPc (ci := 1) (q0 := 0) rfl rfl, fun U hU hW => ⟨rfl, xOK_at hX hU hW, by rw [hU]; exact hPc, va_K.moved hW.alike hKc⟩⟩ rfl rfl hl.1 rfl (lv_room (Nat.le_of_ble_eq_true rfl)) dL_highest_4 ⟨Nat.le_of_ble_eq_true rfl, Nat.le_of_ble_eq_true rfl⟩) (fun E9 ce q9 H hE h1 h2 h3 h4 h5 => ?_)
  subst hE
  have hP : va_P D vwCl [(h0, .inr (1, [.ref hn, .ref hd, .ref hq, .int (b2i go), .int mv])), (hn, .inl (cZ, 165, .inl (fun j => b2i (nb j)))), (hd, .inl (cD, 165, .inr (.inr (.inr (.inl v))))), (hq, .inl (cI, 12, .inl (fun j => nI (ln j)))), (qo, .inl (cD, 1, .inr (.inr (.inr (.inl oD)))))] H := hP.kept (fun k q hk => h2 q.1 (vx_lt hP hk))
  have hS : va_S A s.heap H [] := ⟨h1, fun q hq _ => h2 q hq, fun q hq => absurd hq List.not_mem_nil⟩
  refine vx_catch (E := IAE) (name := IAE) hown [] ⟨0, 8, 11, 13⟩ [⟨0, 8, 14, 77⟩] htab (fun z hz => absurd hz List.not_mem_nil) (by decide) (by decide) (hts (.classLink RL 13 IAE) (by decide +kernel)) (xC.word hX.2.2.2.1) h3 h4 h5 ?_
  show W p l e _ s m _ below meth c H [] _ _ _ (F0 m 11 ls [.ref q9])
  refine lv_astore_n (lv' := [(3, .ref q9), (0, .ref h0), (1, .int x0), (2, .ref qo)]) hx hb dL_highest_11 rfl hl (by decide) rfl (fun ls hl => ?_)
  refine lv_iconst (v := nI 1) hx hb dL_highest_12 (by decide) ?_
  refine vx_ret ?_
  refine W.widen (k := 1) (n := 6) (Nat.le_of_ble_eq_true rfl) (Nat.le_of_ble_eq_true rfl) ?_
  exact W.iret (v := nI 1) hx hb hr (fun t9 ht9 hW9 => ⟨⟨_, rfl, rfl, by rw [ht9]; exact hP⟩, hS.F ht9⟩) hS.2.2 dL_highest_13
set_option maxHeartbeats 4000000 in
set_option maxRecDepth 100000 in
theorem w_calmest (l : Launch) (D : va_G) (h0 hn hd hq qo : Nat) (cZ cD cI : ClassId) (nb : Nat → Bool) (v : Nat → UInt64) (ln : Nat → Nat) (go : Bool) (mv : Int32) (oD : Nat → UInt64) (hln : ∀ j, ln j ≤ 12) (hl0 : l.stackTraces = false) (zz : Nat) (g : Nat) (hg : g < 6) (hsome : bs nb v (g * 2 + 1) 0 (ln (g * 2 + 1)) ≠ 164) (hnn : vf_n32 (FP.d2f (v (bs nb v (g * 2 + 1) 0 (ln (g * 2 + 1)))))) (hn2 : vf_n64 (FP.f2d (FP.d2f (v (bs nb v (g * 2 + 1) 0 (ln (g * 2 + 1))))))) : Met l yL_calmest wsL_calmest ({ frames := 8, cells := 1, slots := 6, locals := 123 }) (va_Pc [.ref h0, .int (nI g), .ref qo] (fun U => xOK U ∧ xN U ∧ U.heap.size = zz ∧ va_P D vwCl [(h0, .inr (1, [.ref hn, .ref hd, .ref hq, .int (b2i go), .int mv])), (hn, .inl (cZ, 165, .inl (fun j => b2i (nb j)))), (hd, .inl (cD, 165, .inr (.inr (.inr (.inl v))))), (hq, .inl (cI, 12, .inl (fun j => nI (ln j)))), (qo, .inl (cD, 1, .inr (.inr (.inr (.inl oD)))))] U.heap ∧ va_K D vwCl (TY cZ cD cI) U ∧ va_D (fun _ => True) [(h0, .inr (1, [.ref hn, .ref hd, .ref hq, .int (b2i go), .int mv])), (hn, .inl (cZ, 165, .inl (fun j => b2i (nb j)))), (hd, .inl (cD, 165, .inr (.inr (.inr (.inl v))))), (hq, .inl (cI, 12, .inl (fun j => nI (ln j)))), (qo, .inl (cD, 1, .inr (.inr (.inr (.inl oD)))))])) (wr_Qi (fun r => r = nI 0) (fun H => va_P D vwCl [(h0, .inr (1, [.ref hn, .ref hd, .ref hq, .int (b2i go), .int mv])), (hn, .inl (cZ, 165, .inl (fun j => b2i (nb j)))), (hd, .inl (cD, 165, .inr (.inr (.inr (.inl v))))), (hq, .inl (cI, 12, .inl (fun j => nI (ln j)))), (qo, .inl (cD, 1, .inr (.inr (.inr (.inl (up oD 0 (FP.f2d (FP.d2f (v (bs nb v (g * 2 + 1) 0 (ln (g * 2 + 1))))))))))))] H) (va_A [(h0, .inr (1, [.ref hn, .ref hd, .ref hq, .int (b2i go), .int mv])), (hn, .inl (cZ, 165, .inl (fun j => b2i (nb j)))), (hd, .inl (cD, 165, .inr (.inr (.inr (.inl v))))), (hq, .inl (cI, 12, .inl (fun j => nI (ln j)))), (qo, .inl (cD, 1, .inr (.inr (.inr (.inl oD)))))] zz)) 1 6 (va_A [(h0, .inr (1, [.ref hn, .ref hd, .ref hq, .int (b2i go), .int mv])), (hn, .inl (cZ, 165, .inl (fun j => b2i (nb j)))), (hd, .inl (cD, 165, .inr (.inr (.inr (.inl v))))), (hq, .inl (cI, 12, .inl (fun j => nI (ln j)))), (qo, .inl (cD, 1, .inr (.inr (.inr (.inl oD)))))] zz) := by
  refine met_of_vx (vx_ofWH (cc := cL_calmest) (maxL := 4) (ret := some .int) (hh := [(0, 9, 12, 13), (0, 9, 15, 77)]) (by decide) rfl ?_)
  intro p e s m args below meth c s₁ B hml hv
  obtain ⟨rfl, hX, hN, hsz_, hP, hK, hD0⟩ := hv
  have hx := B.exec
  have hb := B.bytes
  have hr := B.returns
  have hts := atoms_spec (ws := wsL_calmest) B.pre
  have hown : s.vm.findClass RL = some m.cls := findClass_of_methodNamed B.named
  have hlocks := B.notSynchronized
  have htab := vx_table (x := yL_calmest) (hh := [(0, 9, 12, 13), (0, 9, 15, 77)]) B (hts _ List.mem_cons_self)
  subst hsz_
  have hD := hD0.self (sz := s.heap.size)
  generalize hAe : va_A [(h0, .inr (1, [.ref hn, .ref hd, .ref hq, .int (b2i go), .int mv])), (hn, .inl (cZ, 165, .inl (fun j => b2i (nb j)))), (hd, .inl (cD, 165, .inr (.inr (.inr (.inl v))))), (hq, .inl (cI, 12, .inl (fun j => nI (ln j)))), (qo, .inl (cD, 1, .inr (.inr (.inr (.inl oD)))))] s.heap.size = A at hD ⊢
  have hA : ∀ q : Nat, s.heap.size ≤ q → A q := fun q h => by rw [← hAe]; exact Or.inr h
  have hS : va_S A s.heap s.heap [] := va_S.rf
  have hl := lv_entry ([.ref h0, .int (nI g), .ref qo]) (n := 4) (Nat.le_of_ble_eq_true rfl)
  rw [lg_entry_eq]
  generalize (lg_sl ([.ref h0, .int (nI g), .ref qo]) ++ List.replicate (4 - (lg_sl ([.ref h0, .int (nI g), .ref qo])).length) Slot.unset).toArray = ls at hl ⊢
  have hl : lv_has ls 4 [(0, .ref h0), (1, .int (nI g)), (2, .ref qo)] := hl
  refine lv_aload_n hx hb dL_calmest_0 rfl (lv_at hl 2 rfl) ?_
  refine lv_iconst (v := nI 0) hx hb dL_calmest_1 (by decide) ?_
  refine lv_aload_n hx hb dL_calmest_2 rfl (lv_at hl 0 rfl) ?_
  refine lv_iload_n hx hb dL_calmest_3 rfl (lv_at hl 1 rfl) ?_
  have hPc : va_P D vwCl (WB h0 hn hd hq cZ cD cI nb v ln go mv) s.heap := hP.sub [0, 1, 2, 3] rfl
  have hDc : va_D A (WB h0 hn hd hq cZ cD cI nb v ln go mv) := hD.sub [0, 1, 2, 3] (by decide) rfl
  have hKc : va_K D vwCl (TY cZ cD cI) s := hK.sub [0, 1, 2] rfl
  refine rdm_callf (va_runV (As := [.int (nI g)]) (rest := [.int (nI 0), .ref qo]) ⟨hx, hb, hml, hown, hts⟩ (c_X0_calmest l D h0 hn hd hq cZ cD cI nb v ln go mv hln hl0 g hg hsome hnn) (cwV 1 hts gL_calmest_X0_calmest rfl rfl rfl (by decide +kernel) ⟨Nat.le_of_ble_eq_true rfl, Nat.le_of_ble_eq_true rfl⟩) ⟨fun a U g mk q => ⟨q.1, xOK_call q.2.1 g mk a, q.2.2.1, va_K.moved (u := U) (U := U.calling g mk a) (Vm.Alike.refl U.vm) q.2.2.2⟩, va_recv hKc hPc (ci := 1) (q0 := 0) rfl rfl, fun U hU hW => ⟨rfl, xOK_at hX hU hW, by rw [hU]; exact hPc, va_K.moved hW.alike hKc⟩⟩ rfl rfl hl.1 rfl (lv_room (Nat.le_of_ble_eq_true rfl)) dL_calmest_4 ⟨Nat.le_of_ble_eq_true rfl, Nat.le_of_ble_eq_true rfl⟩) (fun r_1 hr_1 => ?_)
  subst hr_1
  refine lv_f2d hx hb dL_calmest_7 hn2 ?_
  refine kn_dast hx hb hK hP hD hS 4 1 rfl rfl (by omega) (by decide) dL_calmest_8 (fun H locs hP hD hS => ?_)
  have hP : va_P D vwCl ([(h0, .inr (1, [.ref hn, .ref hd, .ref hq, .int (b2i go), .int mv])), (hn, .inl (cZ, 165, .inl (fun j => b2i (nb j)))), (hd, .inl (cD, 165, .inr (.inr (.inr (.inl v))))), (hq, .inl (cI, 12, .inl (fun j => nI (ln j)))), (qo, .inl (cD, 1, .inr (.inr (.inr (.inl (up oD 0 (FP.f2d (FP.d2f (v (bs nb v (g * 2 + 1) 0 (ln (g * 2 + 1))))))))))))]) H := hP
  have hD : va_D A ([(h0, .inr (1, [.ref hn, .ref hd, .ref hq, .int (b2i go), .int mv])), (hn, .inl (cZ, 165, .inl (fun j => b2i (nb j)))), (hd, .inl (cD, 165, .inr (.inr (.inr (.inl v))))), (hq, .inl (cI, 12, .inl (fun j => nI (ln j)))), (qo, .inl (cD, 1, .inr (.inr (.inr (.inl (up oD 0 (FP.f2d (FP.d2f (v (bs nb v (g * 2 + 1) 0 (ln (g * 2 + 1))))))))))))]) := hD
  refine lv_goto (tgt := 18) hx hb dL_calmest_9 (by decide) ?_
  refine lv_iconst (v := nI 0) hx hb dL_calmest_18 (by decide) ?_
  refine vx_ret ?_
  refine W.widen (k := 1) (n := 6) (Nat.le_of_ble_eq_true rfl) (Nat.le_of_ble_eq_true rfl) ?_
  exact W.iret (v := nI 0) hx hb hr (fun t9 ht9 hW9 => ⟨⟨_, rfl, rfl, by rw [ht9]; exact hP⟩, hS.F ht9⟩) hS.2.2 dL_calmest_19
set_option maxHeartbeats 4000000 in
set_option maxRecDepth 100000 in
theorem w_calmest_none (l : Launch) (D : va_G) (h0 hn hd hq qo : Nat) (cZ cD cI : ClassId) (nb : Nat → Bool) (v : Nat → UInt64) (ln : Nat → Nat) (go : Bool) (mv : Int32) (oD : Nat → UInt64) (hln : ∀ j, ln j ≤ 12) (hl0 : l.stackTraces = false) (zz : Nat) (g : Nat) (hg : g < 6) (hnone : bs nb v (g * 2 + 1) 0 (ln (g * 2 + 1)) = 164) : Met l yL_calmest wsL_calmest ({ frames := 8, cells := 2, slots := 12, locals := 129 }) (va_Pc [.ref h0, .int (nI g), .ref qo] (fun U => xOK U ∧ xN U ∧ U.heap.size = zz ∧ va_P D vwCl [(h0, .inr (1, [.ref hn, .ref hd, .ref hq, .int (b2i go), .int mv])), (hn, .inl (cZ, 165, .inl (fun j => b2i (nb j)))), (hd, .inl (cD, 165, .inr (.inr (.inr (.inl v))))), (hq, .inl (cI, 12, .inl (fun j => nI (ln j)))), (qo, .inl (cD, 1, .inr (.inr (.inr (.inl oD)))))] U.heap ∧ va_K D vwCl (TY cZ cD cI) U ∧ va_D (fun _ => True) [(h0, .inr (1, [.ref hn, .ref hd, .ref hq, .int (b2i go), .int mv])), (hn, .inl (cZ, 165, .inl (fun j => b2i (nb j)))), (hd, .inl (cD, 165, .inr (.inr (.inr (.inl v))))), (hq, .inl (cI, 12, .inl (fun j => nI (ln j)))), (qo, .inl (cD, 1, .inr (.inr (.inr (.inl oD)))))])) (wr_Qi (fun r => r = nI 2) (fun H => va_P D vwCl [(h0, .inr (1, [.ref hn, .ref hd, .ref hq, .int (b2i go), .int mv])), (hn, .inl (cZ, 165, .inl (fun j => b2i (nb j)))), (hd, .inl (cD, 165, .inr (.inr (.inr (.inl v))))), (hq, .inl (cI, 12, .inl (fun j => nI (ln j)))), (qo, .inl (cD, 1, .inr (.inr (.inr (.inl oD)))))] H) (va_A [(h0, .inr (1, [.ref hn, .ref hd, .ref hq, .int (b2i go), .int mv])), (hn, .inl (cZ, 165, .inl (fun j => b2i (nb j)))), (hd, .inl (cD, 165, .inr (.inr (.inr (.inl v))))), (hq, .inl (cI, 12, .inl (fun j => nI (ln j)))), (qo, .inl (cD, 1, .inr (.inr (.inr (.inl oD)))))] zz)) 2 12 (va_A [(h0, .inr (1, [.ref hn, .ref hd, .ref hq, .int (b2i go), .int mv])), (hn, .inl (cZ, 165, .inl (fun j => b2i (nb j)))), (hd, .inl (cD, 165, .inr (.inr (.inr (.inl v))))), (hq, .inl (cI, 12, .inl (fun j => nI (ln j)))), (qo, .inl (cD, 1, .inr (.inr (.inr (.inl oD)))))] zz) := by
  refine met_of_vx (vx_ofWH (cc := cL_calmest) (maxL := 4) (ret := some .int) (hh := [(0, 9, 12, 13), (0, 9, 15, 77)]) (by decide) rfl ?_)
  intro p e s m args below meth c s₁ B hml hv
  obtain ⟨rfl, hX, hN, hsz_, hP, hK, hD0⟩ := hv
  have hx := B.exec
  have hb := B.bytes
  have hr := B.returns
  have hts := atoms_spec (ws := wsL_calmest) B.pre
  have hown : s.vm.findClass RL = some m.cls := findClass_of_methodNamed B.named
  have hlocks := B.notSynchronized
  have htab := vx_table (x := yL_calmest) (hh := [(0, 9, 12, 13), (0, 9, 15, 77)]) B (hts _ List.mem_cons_self)
  subst hsz_
  have hD := hD0.self (sz := s.heap.size)
  generalize hAe : va_A [(h0, .inr (1, [.ref hn, .ref hd, .ref hq, .int (b2i go), .int mv])), (hn, .inl (cZ, 165, .inl (fun j => b2i (nb j)))), (hd, .inl (cD, 165, .inr (.inr (.inr (.inl v))))), (hq, .inl (cI, 12, .inl (fun j => nI (ln j)))), (qo, .inl (cD, 1, .inr (.inr (.inr (.inl oD)))))] s.heap.size = A at hD ⊢
  have hA : ∀ q : Nat, s.heap.size ≤ q → A q := fun q h => by rw [← hAe]; exact Or.inr h
  have hS : va_S A s.heap s.heap [] := va_S.rf
  have hl := lv_entry ([.ref h0, .int (nI g), .ref qo]) (n := 4) (Nat.le_of_ble_eq_true rfl)
  rw [lg_entry_eq]
  generalize (lg_sl ([.ref h0, .int (nI g), .ref qo]) ++ List.replicate (4 - (lg_sl ([.ref h0, .int (nI g), .ref qo])).length) Slot.unset).toArray = ls at hl ⊢
  have hl : lv_has ls 4 [(0, .ref h0), (1, .int (nI g)), (2, .ref qo)] := hl
  refine lv_aload_n hx hb dL_calmest_0 rfl (lv_at hl 2 rfl) ?_
  refine lv_iconst (v := nI 0) hx hb dL_calmest_1 (by decide) ?_
  refine lv_aload_n hx hb dL_calmest_2 rfl (lv_at hl 0 rfl) ?_
  refine lv_iload_n hx hb dL_calmest_3 rfl (lv_at hl 1 rfl) ?_
  have hPc : va_P D vwCl (WB h0 hn hd hq cZ cD cI nb v ln go mv) s.heap := hP.sub [0, 1, 2, 3] rfl
  have hDc : va_D A (WB h0 hn hd hq cZ cD cI nb v ln go mv) := hD.sub [0, 1, 2, 3] (by decide) rfl
  have hKc : va_K D vwCl (TY cZ cD cI) s := hK.sub [0, 1, 2] rfl
  refine kv_never (vx_runV (As := [.int (nI g)]) (rest := [.int (nI 0), .ref qo]) ⟨hx, hb, hml, hown, hts⟩ (c_X0_calmest_none l D h0 hn hd hq cZ cD cI nb v ln go mv hln hl0 g hg hnone) (cwV 1 hts gL_calmest_X0_calmest rfl rfl rfl (by decide +kernel) ⟨Nat.le_of_ble_eq_true rfl, Nat.le_of_ble_eq_true rfl⟩) ⟨fun a U g mk q => ⟨q.1, xOK_call q.2.1 g mk a, q.2.2.1, va_K.moved (u := U) (U := U.calling g mk a) (Vm.Alike.refl U.vm) q.2.2.2⟩, va_recv hKc hPc (ci := 1) (q0 := 0) rfl rfl, fun U hU hW => ⟨rfl, xOK_at hX hU hW, by rw [hU]; exact hPc, va_K.moved hW.alike hKc⟩⟩ rfl rfl hl.1 rfl (lv_room (Nat.le_of_ble_eq_true rfl)) dL_calmest_4 ⟨Nat.le_of_ble_eq_true rfl, Nat.le_of_ble_eq_true rfl⟩) (fun E9 ce q9 H hE h1 h2 h3 h4 h5 => ?_)
  subst hE
  have hP : va_P D vwCl [(h0, .inr (1, [.ref hn, .ref hd, .ref hq, .int (b2i go), .int mv])), (hn, .inl (cZ, 165, .inl (fun j => b2i (nb j)))), (hd, .inl (cD, 165, .inr (.inr (.inr (.inl v))))), (hq, .inl (cI, 12, .inl (fun j => nI (ln j)))), (qo, .inl (cD, 1, .inr (.inr (.inr (.inl oD)))))] H := hP.kept (fun k q hk => h2 q.1 (vx_lt hP hk))
  have hS : va_S A s.heap H [] := ⟨h1, fun q hq _ => h2 q hq, fun q hq => absurd hq List.not_mem_nil⟩
  refine vx_catch (E := NSE) (name := NSE) hown [⟨0, 9, 12, 13⟩] ⟨0, 9, 15, 77⟩ [] htab (fun z hz => (List.mem_cons.mp hz).elim (fun e9 => by rw [e9]; exact Or.inr ⟨by decide, IAE, hts (.classLink RL 13 IAE) (by decide +kernel), hN.2.1⟩) (fun hz => absurd hz List.not_mem_nil)) (by decide) (by decide) (hts (.classLink RL 77 NSE) (by decide +kernel)) (xC.word hX.2.2.2.2.2.2.2) h3 h4 h5 ?_
  show W p l e _ s m _ below meth c H [] _ _ _ (F0 m 15 ls [.ref q9])
  refine lv_astore_n (lv' := [(3, .ref q9), (0, .ref h0), (1, .int (nI g)), (2, .ref qo)]) hx hb dL_calmest_15 rfl hl (by decide) rfl (fun ls hl => ?_)
  refine lv_iconst (v := nI 2) hx hb dL_calmest_16 (by decide) ?_
  refine vx_ret ?_
  refine W.widen (k := 2) (n := 12) (Nat.le_of_ble_eq_true rfl) (Nat.le_of_ble_eq_true rfl) ?_
  exact W.iret (v := nI 2) hx hb hr (fun t9 ht9 hW9 => ⟨⟨_, rfl, rfl, by rw [ht9]; exact hP⟩, hS.F ht9⟩) hS.2.2 dL_calmest_17
set_option maxHeartbeats 4000000 in
set_option maxRecDepth 100000 in
theorem w_calmest_bad (l : Launch) (D : va_G) (h0 hn hd hq qo : Nat) (cZ cD cI : ClassId) (nb : Nat → Bool) (v : Nat → UInt64) (ln : Nat → Nat) (go : Bool) (mv : Int32) (oD : Nat → UInt64) (hln : ∀ j, ln j ≤ 12) (hl0 : l.stackTraces = false) (zz : Nat) (x0 : Int32) (hbad : ¬ (InN 6 x0)) : Met l yL_calmest wsL_calmest ({ frames := 8, cells := 1, slots := 6, locals := 123 }) (va_Pc [.ref h0, .int x0, .ref qo] (fun U => xOK U ∧ xN U ∧ U.heap.size = zz ∧ va_P D vwCl [(h0, .inr (1, [.ref hn, .ref hd, .ref hq, .int (b2i go), .int mv])), (hn, .inl (cZ, 165, .inl (fun j => b2i (nb j)))), (hd, .inl (cD, 165, .inr (.inr (.inr (.inl v))))), (hq, .inl (cI, 12, .inl (fun j => nI (ln j)))), (qo, .inl (cD, 1, .inr (.inr (.inr (.inl oD)))))] U.heap ∧ va_K D vwCl (TY cZ cD cI) U ∧ va_D (fun _ => True) [(h0, .inr (1, [.ref hn, .ref hd, .ref hq, .int (b2i go), .int mv])), (hn, .inl (cZ, 165, .inl (fun j => b2i (nb j)))), (hd, .inl (cD, 165, .inr (.inr (.inr (.inl v))))), (hq, .inl (cI, 12, .inl (fun j => nI (ln j)))), (qo, .inl (cD, 1, .inr (.inr (.inr (.inl oD)))))])) (wr_Qi (fun r => r = nI 1) (fun H => va_P D vwCl [(h0, .inr (1, [.ref hn, .ref hd, .ref hq, .int (b2i go), .int mv])), (hn, .inl (cZ, 165, .inl (fun j => b2i (nb j)))), (hd, .inl (cD, 165, .inr (.inr (.inr (.inl v))))), (hq, .inl (cI, 12, .inl (fun j => nI (ln j)))), (qo, .inl (cD, 1, .inr (.inr (.inr (.inl oD)))))] H) (va_A [(h0, .inr (1, [.ref hn, .ref hd, .ref hq, .int (b2i go), .int mv])), (hn, .inl (cZ, 165, .inl (fun j => b2i (nb j)))), (hd, .inl (cD, 165, .inr (.inr (.inr (.inl v))))), (hq, .inl (cI, 12, .inl (fun j => nI (ln j)))), (qo, .inl (cD, 1, .inr (.inr (.inr (.inl oD)))))] zz)) 1 6 (va_A [(h0, .inr (1, [.ref hn, .ref hd, .ref hq, .int (b2i go), .int mv])), (hn, .inl (cZ, 165, .inl (fun j => b2i (nb j)))), (hd, .inl (cD, 165, .inr (.inr (.inr (.inl v))))), (hq, .inl (cI, 12, .inl (fun j => nI (ln j)))), (qo, .inl (cD, 1, .inr (.inr (.inr (.inl oD)))))] zz) := by
  refine met_of_vx (vx_ofWH (cc := cL_calmest) (maxL := 4) (ret := some .int) (hh := [(0, 9, 12, 13), (0, 9, 15, 77)]) (by decide) rfl ?_)
  intro p e s m args below meth c s₁ B hml hv
  obtain ⟨rfl, hX, hN, hsz_, hP, hK, hD0⟩ := hv
  have hx := B.exec
  have hb := B.bytes
  have hr := B.returns
  have hts := atoms_spec (ws := wsL_calmest) B.pre
  have hown : s.vm.findClass RL = some m.cls := findClass_of_methodNamed B.named
  have hlocks := B.notSynchronized
  have htab := vx_table (x := yL_calmest) (hh := [(0, 9, 12, 13), (0, 9, 15, 77)]) B (hts _ List.mem_cons_self)
  subst hsz_
  have hD := hD0.self (sz := s.heap.size)
  generalize hAe : va_A [(h0, .inr (1, [.ref hn, .ref hd, .ref hq, .int (b2i go), .int mv])), (hn, .inl (cZ, 165, .inl (fun j => b2i (nb j)))), (hd, .inl (cD, 165, .inr (.inr (.inr (.inl v))))), (hq, .inl (cI, 12, .inl (fun j => nI (ln j)))), (qo, .inl (cD, 1, .inr (.inr (.inr (.inl oD)))))] s.heap.size = A at hD ⊢
  have hA : ∀ q : Nat, s.heap.size ≤ q → A q := fun q h => by rw [← hAe]; exact Or.inr h
  have hS : va_S A s.heap s.heap [] := va_S.rf
  have hl := lv_entry ([.ref h0, .int x0, .ref qo]) (n := 4) (Nat.le_of_ble_eq_true rfl)
  rw [lg_entry_eq]
  generalize (lg_sl ([.ref h0, .int x0, .ref qo]) ++ List.replicate (4 - (lg_sl ([.ref h0, .int x0, .ref qo])).length) Slot.unset).toArray = ls at hl ⊢
  have hl : lv_has ls 4 [(0, .ref h0), (1, .int x0), (2, .ref qo)] := hl
  refine lv_aload_n hx hb dL_calmest_0 rfl (lv_at hl 2 rfl) ?_
  refine lv_iconst (v := nI 0) hx hb dL_calmest_1 (by decide) ?_
  refine lv_aload_n hx hb dL_calmest_2 rfl (lv_at hl 0 rfl) ?_
  refine lv_iload_n hx hb dL_calmest_3 rfl (lv_at hl 1 rfl) ?_
  have hPc : va_P D vwCl (WB h0 hn hd hq cZ cD cI nb v ln go mv) s.heap := hP.sub [0, 1, 2, 3] rfl
  have hDc : va_D A (WB h0 hn hd hq cZ cD cI nb v ln go mv) := hD.sub [0, 1, 2, 3] (by decide) rfl
  have hKc : va_K D vwCl (TY cZ cD cI) s := hK.sub [0, 1, 2] rfl
  refine kv_never (vx_runV (As := [.int x0]) (rest := [.int (nI 0), .ref qo]) ⟨hx, hb, hml, hown, hts⟩ (c_X0_calmest_bad l D h0 hn hd hq cZ cD cI nb v ln go mv hln hl0 x0 hbad) (cwV 1 hts gL_calmest_X0_calmest rfl rfl rfl (by decide +kernel) ⟨Nat.le_of_ble_eq_true rfl, Nat.le_of_ble_eq_true rfl⟩) ⟨fun a U g mk q => ⟨q.1, xOK_call q.2.1 g mk a, q.2.2.1, va_K.moved (u := U) (U := U.calling g mk a) (Vm.Alike.refl U.vm) q.2.2.2⟩, va_recv hKc hPc (ci := 1) (q0 := 0) rfl rfl, fun U hU hW => ⟨rfl, xOK_at hX hU hW, by rw [hU]; exact hPc, va_K.moved hW.alike hKc⟩⟩ rfl rfl hl.1 rfl (lv_room (Nat.le_of_ble_eq_true rfl)) dL_calmest_4 ⟨Nat.le_of_ble_eq_true rfl, Nat.le_of_ble_eq_true rfl⟩) (fun E9 ce q9 H hE h1 h2 h3 h4 h5 => ?_)
  subst hE
  have hP : va_P D vwCl [(h0, .inr (1, [.ref hn, .ref hd, .ref hq, .int (b2i go), .int mv])), (hn, .inl (cZ, 165, .inl (fun j => b2i (nb j)))), (hd, .inl (cD, 165, .inr (.inr (.inr (.inl v))))), (hq, .inl (cI, 12, .inl (fun j => nI (ln j)))), (qo, .inl (cD, 1, .inr (.inr (.inr (.inl oD)))))] H := hP.kept (fun k q hk => h2 q.1 (vx_lt hP hk))
  have hS : va_S A s.heap H [] := ⟨h1, fun q hq _ => h2 q hq, fun q hq => absurd hq List.not_mem_nil⟩
  refine vx_catch (E := IAE) (name := IAE) hown [] ⟨0, 9, 12, 13⟩ [⟨0, 9, 15, 77⟩] htab (fun z hz => absurd hz List.not_mem_nil) (by decide) (by decide) (hts (.classLink RL 13 IAE) (by decide +kernel)) (xC.word hX.2.2.2.1) h3 h4 h5 ?_
  show W p l e _ s m _ below meth c H [] _ _ _ (F0 m 12 ls [.ref q9])
  refine lv_astore_n (lv' := [(3, .ref q9), (0, .ref h0), (1, .int x0), (2, .ref qo)]) hx hb dL_calmest_12 rfl hl (by decide) rfl (fun ls hl => ?_)
  refine lv_iconst (v := nI 1) hx hb dL_calmest_13 (by decide) ?_
  refine vx_ret ?_
  refine W.widen (k := 1) (n := 6) (Nat.le_of_ble_eq_true rfl) (Nat.le_of_ble_eq_true rfl) ?_
  exact W.iret (v := nI 1) hx hb hr (fun t9 ht9 hW9 => ⟨⟨_, rfl, rfl, by rw [ht9]; exact hP⟩, hS.F ht9⟩) hS.2.2 dL_calmest_14
set_option maxHeartbeats 4000000 in
set_option maxRecDepth 100000 in
theorem w_same (l : Launch) (D : va_G) (h0 hn hd hq qo : Nat) (cZ cD cI cJ : ClassId) (nb : Nat → Bool) (v : Nat → UInt64) (ln : Nat → Nat) (go : Bool) (mv : Int32) (oL : Nat → Int64) (hln : ∀ j, ln j ≤ 12) (hl0 : l.stackTraces = false) (zz : Nat) (g : Nat) (h : Nat) (hg : g < 6) (hh : h < 6) : Met l yL_same wsL_same ({ frames := 8, cells := 2, slots := 12, locals := 128 }) (va_Pc [.ref h0, .int (nI g), .int (nI h), .ref qo] (fun U => xOK U ∧ xN U ∧ U.heap.size = zz ∧ va_P D vwCl [(h0, .inr (1, [.ref hn, .ref hd, .ref hq, .int (b2i go), .int mv])), (hn, .inl (cZ, 165, .inl (fun j => b2i (nb j)))), (hd, .inl (cD, 165, .inr (.inr (.inr (.inl v))))), (hq, .inl (cI, 12, .inl (fun j => nI (ln j)))), (qo, .inl (cJ, 1, .inr (.inl oL)))] U.heap ∧ va_K D vwCl (TYL cZ cD cI cJ) U ∧ va_D (fun _ => True) [(h0, .inr (1, [.ref hn, .ref hd, .ref hq, .int (b2i go), .int mv])), (hn, .inl (cZ, 165, .inl (fun j => b2i (nb j)))), (hd, .inl (cD, 165, .inr (.inr (.inr (.inl v))))), (hq, .inl (cI, 12, .inl (fun j => nI (ln j)))), (qo, .inl (cJ, 1, .inr (.inl oL)))])) (wr_Qi (fun r => r = nI 0) (fun H => va_P D vwCl [(h0, .inr (1, [.ref hn, .ref hd, .ref hq, .int (b2i go), .int mv])), (hn, .inl (cZ, 165, .inl (fun j => b2i (nb j)))), (hd, .inl (cD, 165, .inr (.inr (.inr (.inl v))))), (hq, .inl (cI, 12, .inl (fun j => nI (ln j)))), (qo, .inl (cJ, 1, .inr (.inl (up oL 0 (Int32.toInt64 (nI (saC nb v ln g h)))))))] H) (va_A [(h0, .inr (1, [.ref hn, .ref hd, .ref hq, .int (b2i go), .int mv])), (hn, .inl (cZ, 165, .inl (fun j => b2i (nb j)))), (hd, .inl (cD, 165, .inr (.inr (.inr (.inl v))))), (hq, .inl (cI, 12, .inl (fun j => nI (ln j)))), (qo, .inl (cJ, 1, .inr (.inl oL)))] zz)) 2 12 (va_A [(h0, .inr (1, [.ref hn, .ref hd, .ref hq, .int (b2i go), .int mv])), (hn, .inl (cZ, 165, .inl (fun j => b2i (nb j)))), (hd, .inl (cD, 165, .inr (.inr (.inr (.inl v))))), (hq, .inl (cI, 12, .inl (fun j => nI (ln j)))), (qo, .inl (cJ, 1, .inr (.inl oL)))] zz) := by
  refine met_of_vx (vx_ofWH (cc := cL_same) (maxL := 5) (ret := some .int) (hh := [(0, 10, 13, 13)]) (by decide) rfl ?_)
  intro p e s m args below meth c s₁ B hml hv
  obtain ⟨rfl, hX, hN, hsz_, hP, hK, hD0⟩ := hv
  have hx := B.exec
  have hb := B.bytes
  have hr := B.returns
  have hts := atoms_spec (ws := wsL_same) B.pre
  have hown : s.vm.findClass RL = some m.cls := findClass_of_methodNamed B.named
  have hlocks := B.notSynchronized
  have htab := vx_table (x := yL_same) (hh := [(0, 10, 13, 13)]) B (hts _ List.mem_cons_self)
  subst hsz_
  have hD := hD0.self (sz := s.heap.size)
  generalize hAe : va_A [(h0, .inr (1, [.ref hn, .ref hd, .ref hq, .int (b2i go), .int mv])), (hn, .inl (cZ, 165, .inl (fun j => b2i (nb j)))), (hd, .inl (cD, 165, .inr (.inr (.inr (.inl v))))), (hq, .inl (cI, 12, .inl (fun j => nI (ln j)))), (qo, .inl (cJ, 1, .inr (.inl oL)))] s.heap.size = A at hD ⊢
  have hA : ∀ q : Nat, s.heap.size ≤ q → A q := fun q h => by rw [← hAe]; exact Or.inr h
  have hS : va_S A s.heap s.heap [] := va_S.rf
  have hl := lv_entry ([.ref h0, .int (nI g), .int (nI h), .ref qo]) (n := 5) (Nat.le_of_ble_eq_true rfl)
  rw [lg_entry_eq]
  generalize (lg_sl ([.ref h0, .int (nI g), .int (nI h), .ref qo]) ++ List.replicate (5 - (lg_sl ([.ref h0, .int (nI g), .int (nI h), .ref qo])).length) Slot.unset).toArray = ls at hl ⊢
  have hl : lv_has ls 5 [(0, .ref h0), (1, .int (nI g)), (2, .int (nI h)), (3, .ref qo)] := hl
  refine lv_aload_n hx hb dL_same_0 rfl (lv_at hl 3 rfl) ?_
  refine lv_iconst (v := nI 0) hx hb dL_same_1 (by decide) ?_
  refine lv_aload_n hx hb dL_same_2 rfl (lv_at hl 0 rfl) ?_
  refine lv_iload_n hx hb dL_same_3 rfl (lv_at hl 1 rfl) ?_
  refine lv_iload_n hx hb dL_same_4 rfl (lv_at hl 2 rfl) ?_
  have hPc : va_P D vwCl (WB h0 hn hd hq cZ cD cI nb v ln go mv) s.heap := hP.sub [0, 1, 2, 3] rfl
  have hDc : va_D A (WB h0 hn hd hq cZ cD cI nb v ln go mv) := hD.sub [0, 1, 2, 3] (by decide) rfl
  have hKc : va_K D vwCl (TY cZ cD cI) s := hK.sub [0, 1, 2] rfl
  refine rdm_calli (va_runV (As := [.int (nI g), .int (nI h)]) (rest := [.int (nI 0), .ref qo]) ⟨hx, hb, hml, hown, hts⟩ (c_X0_same l D h0 hn hd hq cZ cD cI nb v ln go mv hln hl0 g h hg hh) (cwV 2 hts gL_same_X0_same rfl rfl rfl (by decide +kernel) ⟨Nat.le_of_ble_eq_true rfl, Nat.le_of_ble_eq_true rfl⟩) ⟨fun a U g mk q => ⟨q.1, xOK_call q.2.1 g mk a, q.2.2.1, va_K.moved (u := U) (U := U.calling g mk a) (Vm.Alike.refl U.vm) q.2.2.2⟩, va_recv hKc hPc (ci := 1) (q0 := 0) rfl rfl, fun U hU hW => ⟨rfl, xOK_at hX hU hW, by rw [hU]; exact hPc, va_K.moved hW.alike hKc⟩⟩ rfl rfl hl.1 rfl (lv_room (Nat.le_of_ble_eq_true rfl)) dL_same_5 ⟨Nat.le_of_ble_eq_true rfl, Nat.le_of_ble_eq_true rfl⟩) (fun r_1 hr_1 => ?_)
  subst hr_1
  refine lv_i2l hx hb dL_same_8 rfl ?_
  refine kn_last hx hb hK hP hD hS 4 3 rfl rfl (by omega) (by decide) dL_same_9 (fun H locs hP hD hS => ?_)
  have hP : va_P D vwCl ([(h0, .inr (1, [.ref hn, .ref hd, .ref hq, .int (b2i go), .int mv])), (hn, .inl (cZ, 165, .inl (fun j => b2i (nb j)))), (hd, .inl (cD, 165, .inr (.inr (.inr (.inl v))))), (hq, .inl (cI, 12, .inl (fun j => nI (ln j)))), (qo, .inl (cJ, 1, .inr (.inl (up oL 0 (Int32.toInt64 (nI (saC nb v ln g h)))))))]) H := hP
  have hD : va_D A ([(h0, .inr (1, [.ref hn, .ref hd, .ref hq, .int (b2i go), .int mv])), (hn, .inl (cZ, 165, .inl (fun j => b2i (nb j)))), (hd, .inl (cD, 165, .inr (.inr (.inr (.inl v))))), (hq, .inl (cI, 12, .inl (fun j => nI (ln j)))), (qo, .inl (cJ, 1, .inr (.inl (up oL 0 (Int32.toInt64 (nI (saC nb v ln g h)))))))]) := hD
  refine lv_goto (tgt := 17) hx hb dL_same_10 (by decide) ?_
  refine lv_iconst (v := nI 0) hx hb dL_same_17 (by decide) ?_
  refine vx_ret ?_
  refine W.widen (k := 2) (n := 12) (Nat.le_of_ble_eq_true rfl) (Nat.le_of_ble_eq_true rfl) ?_
  exact W.iret (v := nI 0) hx hb hr (fun t9 ht9 hW9 => ⟨⟨_, rfl, rfl, by rw [ht9]; exact hP⟩, hS.F ht9⟩) hS.2.2 dL_same_18
set_option maxHeartbeats 4000000 in
set_option maxRecDepth 100000 in
theorem w_same_bad (l : Launch) (D : va_G) (h0 hn hd hq qo : Nat) (cZ cD cI cJ : ClassId) (nb : Nat → Bool) (v : Nat → UInt64) (ln : Nat → Nat) (go : Bool) (mv : Int32) (oL : Nat → Int64) (hln : ∀ j, ln j ≤ 12) (hl0 : l.stackTraces = false) (zz : Nat) (x0 : Int32) (x1 : Int32) (hbad : ¬ (InN 6 x0 ∧ InN 6 x1)) : Met l yL_same wsL_same ({ frames := 8, cells := 2, slots := 12, locals := 128 }) (va_Pc [.ref h0, .int x0, .int x1, .ref qo] (fun U => xOK U ∧ xN U ∧ U.heap.size = zz ∧ va_P D vwCl [(h0, .inr (1, [.ref hn, .ref hd, .ref hq, .int (b2i go), .int mv])), (hn, .inl (cZ, 165, .inl (fun j => b2i (nb j)))), (hd, .inl (cD, 165, .inr (.inr (.inr (.inl v))))), (hq, .inl (cI, 12, .inl (fun j => nI (ln j)))), (qo, .inl (cJ, 1, .inr (.inl oL)))] U.heap ∧ va_K D vwCl (TYL cZ cD cI cJ) U ∧ va_D (fun _ => True) [(h0, .inr (1, [.ref hn, .ref hd, .ref hq, .int (b2i go), .int mv])), (hn, .inl (cZ, 165, .inl (fun j => b2i (nb j)))), (hd, .inl (cD, 165, .inr (.inr (.inr (.inl v))))), (hq, .inl (cI, 12, .inl (fun j => nI (ln j)))), (qo, .inl (cJ, 1, .inr (.inl oL)))])) (wr_Qi (fun r => r = nI 1) (fun H => va_P D vwCl [(h0, .inr (1, [.ref hn, .ref hd, .ref hq, .int (b2i go), .int mv])), (hn, .inl (cZ, 165, .inl (fun j => b2i (nb j)))), (hd, .inl (cD, 165, .inr (.inr (.inr (.inl v))))), (hq, .inl (cI, 12, .inl (fun j => nI (ln j)))), (qo, .inl (cJ, 1, .inr (.inl oL)))] H) (va_A [(h0, .inr (1, [.ref hn, .ref hd, .ref hq, .int (b2i go), .int mv])), (hn, .inl (cZ, 165, .inl (fun j => b2i (nb j)))), (hd, .inl (cD, 165, .inr (.inr (.inr (.inl v))))), (hq, .inl (cI, 12, .inl (fun j => nI (ln j)))), (qo, .inl (cJ, 1, .inr (.inl oL)))] zz)) 2 12 (va_A [(h0, .inr (1, [.ref hn, .ref hd, .ref hq, .int (b2i go), .int mv])), (hn, .inl (cZ, 165, .inl (fun j => b2i (nb j)))), (hd, .inl (cD, 165, .inr (.inr (.inr (.inl v))))), (hq, .inl (cI, 12, .inl (fun j => nI (ln j)))), (qo, .inl (cJ, 1, .inr (.inl oL)))] zz) := by
  refine met_of_vx (vx_ofWH (cc := cL_same) (maxL := 5) (ret := some .int) (hh := [(0, 10, 13, 13)]) (by decide) rfl ?_)
  intro p e s m args below meth c s₁ B hml hv
  obtain ⟨rfl, hX, hN, hsz_, hP, hK, hD0⟩ := hv
  have hx := B.exec
  have hb := B.bytes
  have hr := B.returns
  have hts := atoms_spec (ws := wsL_same) B.pre
  have hown : s.vm.findClass RL = some m.cls := findClass_of_methodNamed B.named
  have hlocks := B.notSynchronized
  have htab := vx_table (x := yL_same) (hh := [(0, 10, 13, 13)]) B (hts _ List.mem_cons_self)
  subst hsz_
  have hD := hD0.self (sz := s.heap.size)
  generalize hAe : va_A [(h0, .inr (1, [.ref hn, .ref hd, .ref hq, .int (b2i go), .int mv])), (hn, .inl (cZ, 165, .inl (fun j => b2i (nb j)))), (hd, .inl (cD, 165, .inr (.inr (.inr (.inl v))))), (hq, .inl (cI, 12, .inl (fun j => nI (ln j)))), (qo, .inl (cJ, 1, .inr (.inl oL)))] s.heap.size = A at hD ⊢
  have hA : ∀ q : Nat, s.heap.size ≤ q → A q := fun q h => by rw [← hAe]; exact Or.inr h
  have hS : va_S A s.heap s.heap [] := va_S.rf
  have hl := lv_entry ([.ref h0, .int x0, .int x1, .ref qo]) (n := 5) (Nat.le_of_ble_eq_true rfl)
  rw [lg_entry_eq]
  generalize (lg_sl ([.ref h0, .int x0, .int x1, .ref qo]) ++ List.replicate (5 - (lg_sl ([.ref h0, .int x0, .int x1, .ref qo])).length) Slot.unset).toArray = ls at hl ⊢
  have hl : lv_has ls 5 [(0, .ref h0), (1, .int x0), (2, .int x1), (3, .ref qo)] := hl
  refine lv_aload_n hx hb dL_same_0 rfl (lv_at hl 3 rfl) ?_
  refine lv_iconst (v := nI 0) hx hb dL_same_1 (by decide) ?_
  refine lv_aload_n hx hb dL_same_2 rfl (lv_at hl 0 rfl) ?_
  refine lv_iload_n hx hb dL_same_3 rfl (lv_at hl 1 rfl) ?_
  refine lv_iload_n hx hb dL_same_4 rfl (lv_at hl 2 rfl) ?_
  have hPc : va_P D vwCl (WB h0 hn hd hq cZ cD cI nb v ln go mv) s.heap := hP.sub [0, 1, 2, 3] rfl
  have hDc : va_D A (WB h0 hn hd hq cZ cD cI nb v ln go mv) := hD.sub [0, 1, 2, 3] (by decide) rfl
  have hKc : va_K D vwCl (TY cZ cD cI) s := hK.sub [0, 1, 2] rfl
  refine kv_never (vx_runV (As := [.int x0, .int x1]) (rest := [.int (nI 0), .ref qo]) ⟨hx, hb, hml, hown, hts⟩ (c_X0_same_bad l D h0 hn hd hq cZ cD cI nb v ln go mv hln hl0 x0 x1 hbad) (cwV 2 hts gL_same_X0_same rfl rfl rfl (by decide +kernel) ⟨Nat.le_of_ble_eq_true rfl, Nat.le_of_ble_eq_true rfl⟩) ⟨fun a U g mk q => ⟨q.1, xOK_call q.2.1 g mk a, q.2.2.1, va_K.moved (u := U) (U := U.calling g mk a) (Vm.Alike.refl U.vm) q.2.2.2⟩, va_recv hKc hPc (ci := 1) (q0 := 0) rfl rfl, fun U hU hW => ⟨rfl, xOK_at hX hU hW, by rw [hU]; exact hPc, va_K.moved hW.alike hKc⟩⟩ rfl rfl hl.1 rfl (lv_room (Nat.le_of_ble_eq_true rfl)) dL_same_5 ⟨Nat.le_of_ble_eq_true rfl, Nat.le_of_ble_eq_true rfl⟩) (fun E9 ce q9 H hE h1 h2 h3 h4 h5 => ?_)
  subst hE
  have hP : va_P D vwCl [(h0, .inr (1, [.ref hn, .ref hd, .ref hq, .int (b2i go), .int mv])), (hn, .inl (cZ, 165, .inl (fun j => b2i (nb j)))), (hd, .inl (cD, 165, .inr (.inr (.inr (.inl v))))), (hq, .inl (cI, 12, .inl (fun j => nI (ln j)))), (qo, .inl (cJ, 1, .inr (.inl oL)))] H := hP.kept (fun k q hk => h2 q.1 (vx_lt hP hk))
  have hS : va_S A s.heap H [] := ⟨h1, fun q hq _ => h2 q hq, fun q hq => absurd hq List.not_mem_nil⟩
  refine vx_catch (E := IAE) (name := IAE) hown [] ⟨0, 10, 13, 13⟩ [] htab (fun z hz => absurd hz List.not_mem_nil) (by decide) (by decide) (hts (.classLink RL 13 IAE) (by decide +kernel)) (xC.word hX.2.2.2.1) h3 h4 h5 ?_
  show W p l e _ s m _ below meth c H [] _ _ _ (F0 m 13 ls [.ref q9])
  refine lv_astore (lv' := [(4, .ref q9), (0, .ref h0), (1, .int x0), (2, .int x1), (3, .ref qo)]) hx hb dL_same_13 hl (by decide) rfl (fun ls hl => ?_)
  refine lv_iconst (v := nI 1) hx hb dL_same_15 (by decide) ?_
  refine vx_ret ?_
  refine W.widen (k := 2) (n := 12) (Nat.le_of_ble_eq_true rfl) (Nat.le_of_ble_eq_true rfl) ?_
  exact W.iret (v := nI 1) hx hb hr (fun t9 ht9 hW9 => ⟨⟨_, rfl, rfl, by rw [ht9]; exact hP⟩, hS.F ht9⟩) hS.2.2 dL_same_16
set_option maxHeartbeats 4000000 in
set_option maxRecDepth 100000 in
theorem w_move_open (l : Launch) (D : va_G) (h0 hn hd hq qo : Nat) (cZ cD cI cJ : ClassId) (nb : Nat → Bool) (v : Nat → UInt64) (ln : Nat → Nat) (go : Bool) (mv : Int32) (oL : Nat → Int64) (hln : ∀ j, ln j ≤ 12) (hl0 : l.stackTraces = false) (zz : Nat)  (hgo : go = false) (ho1 : rp nb v (lp ln (0 * 2 + 0)) (lp ln (1 * 2 + 0)) 2 = true) (ho2 : nb (144 + 1 * 3 + 2) = false ∨ rp nb v (lp ln (1 * 2 + 1)) (144 + 1 * 3 + 2) 0 = true) : Met l yL_move wsL_move ({ frames := 8, cells := 1, slots := 6, locals := 124 }) (va_Pc [.ref h0, .int (b2i true), .ref qo] (fun U => xOK U ∧ xN U ∧ U.heap.size = zz ∧ va_P D vwCl [(h0, .inr (1, [.ref hn, .ref hd, .ref hq, .int (b2i go), .int mv])), (hn, .inl (cZ, 165, .inl (fun j => b2i (nb j)))), (hd, .inl (cD, 165, .inr (.inr (.inr (.inl v))))), (hq, .inl (cI, 12, .inl (fun j => nI (ln j)))), (qo, .inl (cJ, 1, .inr (.inl oL)))] U.heap ∧ va_K D vwCl (TYL cZ cD cI cJ) U ∧ va_D (fun _ => True) [(h0, .inr (1, [.ref hn, .ref hd, .ref hq, .int (b2i go), .int mv])), (hn, .inl (cZ, 165, .inl (fun j => b2i (nb j)))), (hd, .inl (cD, 165, .inr (.inr (.inr (.inl v))))), (hq, .inl (cI, 12, .inl (fun j => nI (ln j)))), (qo, .inl (cJ, 1, .inr (.inl oL)))])) (wr_Qi (fun r => r = nI 0) (fun H => va_P D vwCl [(h0, .inr (1, [.ref hn, .ref hd, .ref hq, .int (b2i true), .int ((mv + 1))])), (hn, .inl (cZ, 165, .inl (fun j => b2i (nb j)))), (hd, .inl (cD, 165, .inr (.inr (.inr (.inl v))))), (hq, .inl (cI, 12, .inl (fun j => nI (ln j)))), (qo, .inl (cJ, 1, .inr (.inl (up oL 0 (Int32.toInt64 (mv + 1))))))] H) (va_A [(h0, .inr (1, [.ref hn, .ref hd, .ref hq, .int (b2i go), .int mv])), (hn, .inl (cZ, 165, .inl (fun j => b2i (nb j)))), (hd, .inl (cD, 165, .inr (.inr (.inr (.inl v))))), (hq, .inl (cI, 12, .inl (fun j => nI (ln j)))), (qo, .inl (cJ, 1, .inr (.inl oL)))] zz)) 1 6 (va_A [(h0, .inr (1, [.ref hn, .ref hd, .ref hq, .int (b2i go), .int mv])), (hn, .inl (cZ, 165, .inl (fun j => b2i (nb j)))), (hd, .inl (cD, 165, .inr (.inr (.inr (.inl v))))), (hq, .inl (cI, 12, .inl (fun j => nI (ln j)))), (qo, .inl (cJ, 1, .inr (.inl oL)))] zz) := by
  refine met_of_vx (vx_ofWH (cc := cL_move) (maxL := 4) (ret := some .int) (hh := [(0, 9, 12, 15), (0, 9, 15, 90), (0, 9, 18, 92)]) (by decide) rfl ?_)
  intro p e s m args below meth c s₁ B hml hv
  obtain ⟨rfl, hX, hN, hsz_, hP, hK, hD0⟩ := hv
  have hx := B.exec
  have hb := B.bytes
  have hr := B.returns
  have hts := atoms_spec (ws := wsL_move) B.pre
  have hown : s.vm.findClass RL = some m.cls := findClass_of_methodNamed B.named
  have hlocks := B.notSynchronized
  have htab := vx_table (x := yL_move) (hh := [(0, 9, 12, 15), (0, 9, 15, 90), (0, 9, 18, 92)]) B (hts _ List.mem_cons_self)
  subst hsz_
  have hD := hD0.self (sz := s.heap.size)
  generalize hAe : va_A [(h0, .inr (1, [.ref hn, .ref hd, .ref hq, .int (b2i go), .int mv])), (hn, .inl (cZ, 165, .inl (fun j => b2i (nb j)))), (hd, .inl (cD, 165, .inr (.inr (.inr (.inl v))))), (hq, .inl (cI, 12, .inl (fun j => nI (ln j)))), (qo, .inl (cJ, 1, .inr (.inl oL)))] s.heap.size = A at hD ⊢
  have hA : ∀ q : Nat, s.heap.size ≤ q → A q := fun q h => by rw [← hAe]; exact Or.inr h
  have hS : va_S A s.heap s.heap [] := va_S.rf
  have hl := lv_entry ([.ref h0, .int (b2i true), .ref qo]) (n := 4) (Nat.le_of_ble_eq_true rfl)
  rw [lg_entry_eq]
  generalize (lg_sl ([.ref h0, .int (b2i true), .ref qo]) ++ List.replicate (4 - (lg_sl ([.ref h0, .int (b2i true), .ref qo])).length) Slot.unset).toArray = ls at hl ⊢
  have hl : lv_has ls 4 [(0, .ref h0), (1, .int (b2i true)), (2, .ref qo)] := hl
  refine lv_aload_n hx hb dL_move_0 rfl (lv_at hl 2 rfl) ?_
  refine lv_iconst (v := nI 0) hx hb dL_move_1 (by decide) ?_
  refine lv_aload_n hx hb dL_move_2 rfl (lv_at hl 0 rfl) ?_
  refine lv_iload_n hx hb dL_move_3 rfl (lv_at hl 1 rfl) ?_
  have hPc : va_P D vwCl (WB h0 hn hd hq cZ cD cI nb v ln go mv) s.heap := hP.sub [0, 1, 2, 3] rfl
  have hDc : va_D A (WB h0 hn hd hq cZ cD cI nb v ln go mv) := hD.sub [0, 1, 2, 3] (by decide) rfl
  have hKc : va_K D vwCl (TY cZ cD cI) s := hK.sub [0, 1, 2] rfl
  have hFc := va_free (wc := WB h0 hn hd hq cZ cD cI nb v ln go mv) hD hS hA [0, 1, 2, 3] rfl
  refine wr_calli (va_runV (As := [.int (b2i true)]) (rest := [.int (nI 0), .ref qo]) ⟨hx, hb, hml, hown, hts⟩ (c_X0_move_open l D h0 hn hd hq cZ cD cI nb v ln go mv hln hl0 s.heap.size  hgo ho1 ho2) (cwV 1 hts gL_move_X0_move rfl rfl rfl (by decide +kernel) ⟨Nat.le_of_ble_eq_true rfl, Nat.le_of_ble_eq_true rfl⟩) ⟨fun a U g mk q => ⟨q.1, xOK_call q.2.1 g mk a, q.2.2.1, q.2.2.2.1, va_K.moved (u := U) (U := U.calling g mk a) (Vm.Alike.refl U.vm) q.2.2.2.2.1, q.2.2.2.2.2⟩, va_recv hKc hPc (ci := 1) (q0 := 0) rfl rfl, fun U hU hW => ⟨rfl, xOK_at hX hU hW, by rw [hU], by rw [hU]; exact hPc, va_K.moved hW.alike hKc, hDc.weaken (fun _ _ _ _ => trivial)⟩⟩ rfl rfl hl.1 rfl (lv_room (Nat.le_of_ble_eq_true rfl)) dL_move_4 ⟨Nat.le_of_ble_eq_true rfl, Nat.le_of_ble_eq_true rfl⟩) hS hFc (fun r_1 H locs hr_1 hP1 hz1 hk1 hS => ?_)
  subst hr_1
  obtain ⟨hP, -⟩ := va_join (wr := [(qo, .inl (cJ, 1, .inr (.inl oL)))]) (w1 := WB h0 hn hd hq cZ cD cI nb v ln true (mv + 1)) hP hD [0, 1, 2, 3] [4] rfl rfl (by decide) (by decide) hk1 hFc hP1 (va_D_same (ws := WB h0 hn hd hq cZ cD cI nb v ln go mv) rfl (hDc.self (sz := s.heap.size)))
  have hP : va_P D vwCl [(h0, .inr (1, [.ref hn, .ref hd, .ref hq, .int (b2i true), .int ((mv + 1))])), (hn, .inl (cZ, 165, .inl (fun j => b2i (nb j)))), (hd, .inl (cD, 165, .inr (.inr (.inr (.inl v))))), (hq, .inl (cI, 12, .inl (fun j => nI (ln j)))), (qo, .inl (cJ, 1, .inr (.inl oL)))] H := hP.sub [1, 2, 3, 4, 0] rfl
  have hD : va_D A [(h0, .inr (1, [.ref hn, .ref hd, .ref hq, .int (b2i true), .int ((mv + 1))])), (hn, .inl (cZ, 165, .inl (fun j => b2i (nb j)))), (hd, .inl (cD, 165, .inr (.inr (.inr (.inl v))))), (hq, .inl (cI, 12, .inl (fun j => nI (ln j)))), (qo, .inl (cJ, 1, .inr (.inl oL)))] := va_D_same (ws := [(h0, .inr (1, [.ref hn, .ref hd, .ref hq, .int (b2i go), .int mv])), (hn, .inl (cZ, 165, .inl (fun j => b2i (nb j)))), (hd, .inl (cD, 165, .inr (.inr (.inr (.inl v))))), (hq, .inl (cI, 12, .inl (fun j => nI (ln j)))), (qo, .inl (cJ, 1, .inr (.inl oL)))]) rfl hD
  refine lv_i2l hx hb dL_move_7 rfl ?_
  refine kn_last hx hb hK hP hD hS 4 3 rfl rfl (by omega) (by decide) dL_move_8 (fun H locs hP hD hS => ?_)
  have hP : va_P D vwCl ([(h0, .inr (1, [.ref hn, .ref hd, .ref hq, .int (b2i true), .int ((mv + 1))])), (hn, .inl (cZ, 165, .inl (fun j => b2i (nb j)))), (hd, .inl (cD, 165, .inr (.inr (.inr (.inl v))))), (hq, .inl (cI, 12, .inl (fun j => nI (ln j)))), (qo, .inl (cJ, 1, .inr (.inl (up oL 0 (Int32.toInt64 (mv + 1))))))]) H := hP
  have hD : va_D A ([(h0, .inr (1, [.ref hn, .ref hd, .ref hq, .int (b2i true), .int ((mv + 1))])), (hn, .inl (cZ, 165, .inl (fun j => b2i (nb j)))), (hd, .inl (cD, 165, .inr (.inr (.inr (.inl v))))), (hq, .inl (cI, 12, .inl (fun j => nI (ln j)))), (qo, .inl (cJ, 1, .inr (.inl (up oL 0 (Int32.toInt64 (mv + 1))))))]) := hD
  refine lv_goto (tgt := 21) hx hb dL_move_9 (by decide) ?_
  refine lv_iconst (v := nI 0) hx hb dL_move_21 (by decide) ?_
  refine vx_ret ?_
  refine W.widen (k := 1) (n := 6) (Nat.le_of_ble_eq_true rfl) (Nat.le_of_ble_eq_true rfl) ?_
  exact W.iret (v := nI 0) hx hb hr (fun t9 ht9 hW9 => ⟨⟨_, rfl, rfl, by rw [ht9]; exact hP⟩, hS.F ht9⟩) hS.2.2 dL_move_22
set_option maxHeartbeats 4000000 in
set_option maxRecDepth 100000 in
theorem w_move_shut (l : Launch) (D : va_G) (h0 hn hd hq qo : Nat) (cZ cD cI cJ : ClassId) (nb : Nat → Bool) (v : Nat → UInt64) (ln : Nat → Nat) (go : Bool) (mv : Int32) (oL : Nat → Int64) (hln : ∀ j, ln j ≤ 12) (hl0 : l.stackTraces = false) (zz : Nat)  (hgo : go = true) (hs1 : rp nb v (lp ln (0 * 2 + 0)) (144 + 0 * 3 + 0) 2 = false) (hs2 : rp nb v (lp ln (1 * 2 + 0)) (144 + 0 * 3 + 1) 1 = false) : Met l yL_move wsL_move ({ frames := 8, cells := 1, slots := 6, locals := 123 }) (va_Pc [.ref h0, .int (b2i false), .ref qo] (fun U => xOK U ∧ xN U ∧ U.heap.size = zz ∧ va_P D vwCl [(h0, .inr (1, [.ref hn, .ref hd, .ref hq, .int (b2i go), .int mv])), (hn, .inl (cZ, 165, .inl (fun j => b2i (nb j)))), (hd, .inl (cD, 165, .inr (.inr (.inr (.inl v))))), (hq, .inl (cI, 12, .inl (fun j => nI (ln j)))), (qo, .inl (cJ, 1, .inr (.inl oL)))] U.heap ∧ va_K D vwCl (TYL cZ cD cI cJ) U ∧ va_D (fun _ => True) [(h0, .inr (1, [.ref hn, .ref hd, .ref hq, .int (b2i go), .int mv])), (hn, .inl (cZ, 165, .inl (fun j => b2i (nb j)))), (hd, .inl (cD, 165, .inr (.inr (.inr (.inl v))))), (hq, .inl (cI, 12, .inl (fun j => nI (ln j)))), (qo, .inl (cJ, 1, .inr (.inl oL)))])) (wr_Qi (fun r => r = nI 0) (fun H => va_P D vwCl [(h0, .inr (1, [.ref hn, .ref hd, .ref hq, .int (b2i false), .int ((mv + 1))])), (hn, .inl (cZ, 165, .inl (fun j => b2i (nb j)))), (hd, .inl (cD, 165, .inr (.inr (.inr (.inl v))))), (hq, .inl (cI, 12, .inl (fun j => nI (ln j)))), (qo, .inl (cJ, 1, .inr (.inl (up oL 0 (Int32.toInt64 (mv + 1))))))] H) (va_A [(h0, .inr (1, [.ref hn, .ref hd, .ref hq, .int (b2i go), .int mv])), (hn, .inl (cZ, 165, .inl (fun j => b2i (nb j)))), (hd, .inl (cD, 165, .inr (.inr (.inr (.inl v))))), (hq, .inl (cI, 12, .inl (fun j => nI (ln j)))), (qo, .inl (cJ, 1, .inr (.inl oL)))] zz)) 1 6 (va_A [(h0, .inr (1, [.ref hn, .ref hd, .ref hq, .int (b2i go), .int mv])), (hn, .inl (cZ, 165, .inl (fun j => b2i (nb j)))), (hd, .inl (cD, 165, .inr (.inr (.inr (.inl v))))), (hq, .inl (cI, 12, .inl (fun j => nI (ln j)))), (qo, .inl (cJ, 1, .inr (.inl oL)))] zz) := by
  refine met_of_vx (vx_ofWH (cc := cL_move) (maxL := 4) (ret := some .int) (hh := [(0, 9, 12, 15), (0, 9, 15, 90), (0, 9, 18, 92)]) (by decide) rfl ?_)
  intro p e s m args below meth c s₁ B hml hv
  obtain ⟨rfl, hX, hN, hsz_, hP, hK, hD0⟩ := hv
  have hx := B.exec
  have hb := B.bytes
  have hr := B.returns
  have hts := atoms_spec (ws := wsL_move) B.pre
  have hown : s.vm.findClass RL = some m.cls := findClass_of_methodNamed B.named
  have hlocks := B.notSynchronized
  have htab := vx_table (x := yL_move) (hh := [(0, 9, 12, 15), (0, 9, 15, 90), (0, 9, 18, 92)]) B (hts _ List.mem_cons_self)
  subst hsz_
  have hD := hD0.self (sz := s.heap.size)
  generalize hAe : va_A [(h0, .inr (1, [.ref hn, .ref hd, .ref hq, .int (b2i go), .int mv])), (hn, .inl (cZ, 165, .inl (fun j => b2i (nb j)))), (hd, .inl (cD, 165, .inr (.inr (.inr (.inl v))))), (hq, .inl (cI, 12, .inl (fun j => nI (ln j)))), (qo, .inl (cJ, 1, .inr (.inl oL)))] s.heap.size = A at hD ⊢
  have hA : ∀ q : Nat, s.heap.size ≤ q → A q := fun q h => by rw [← hAe]; exact Or.inr h
  have hS : va_S A s.heap s.heap [] := va_S.rf
  have hl := lv_entry ([.ref h0, .int (b2i false), .ref qo]) (n := 4) (Nat.le_of_ble_eq_true rfl)
  rw [lg_entry_eq]
  generalize (lg_sl ([.ref h0, .int (b2i false), .ref qo]) ++ List.replicate (4 - (lg_sl ([.ref h0, .int (b2i false), .ref qo])).length) Slot.unset).toArray = ls at hl ⊢
  have hl : lv_has ls 4 [(0, .ref h0), (1, .int (b2i false)), (2, .ref qo)] := hl
  refine lv_aload_n hx hb dL_move_0 rfl (lv_at hl 2 rfl) ?_
  refine lv_iconst (v := nI 0) hx hb dL_move_1 (by decide) ?_
  refine lv_aload_n hx hb dL_move_2 rfl (lv_at hl 0 rfl) ?_
  refine lv_iload_n hx hb dL_move_3 rfl (lv_at hl 1 rfl) ?_
  have hPc : va_P D vwCl (WB h0 hn hd hq cZ cD cI nb v ln go mv) s.heap := hP.sub [0, 1, 2, 3] rfl
  have hDc : va_D A (WB h0 hn hd hq cZ cD cI nb v ln go mv) := hD.sub [0, 1, 2, 3] (by decide) rfl
  have hKc : va_K D vwCl (TY cZ cD cI) s := hK.sub [0, 1, 2] rfl
  have hFc := va_free (wc := WB h0 hn hd hq cZ cD cI nb v ln go mv) hD hS hA [0, 1, 2, 3] rfl
  refine wr_calli (va_runV (As := [.int (b2i false)]) (rest := [.int (nI 0), .ref qo]) ⟨hx, hb, hml, hown, hts⟩ (c_X0_move_shut l D h0 hn hd hq cZ cD cI nb v ln go mv hln hl0 s.heap.size  hgo hs1 hs2) (cwV 1 hts gL_move_X0_move rfl rfl rfl (by decide +kernel) ⟨Nat.le_of_ble_eq_true rfl, Nat.le_of_ble_eq_true rfl⟩) ⟨fun a U g mk q => ⟨q.1, xOK_call q.2.1 g mk a, q.2.2.1, q.2.2.2.1, va_K.moved (u := U) (U := U.calling g mk a) (Vm.Alike.refl U.vm) q.2.2.2.2.1, q.2.2.2.2.2⟩, va_recv hKc hPc (ci := 1) (q0 := 0) rfl rfl, fun U hU hW => ⟨rfl, xOK_at hX hU hW, by rw [hU], by rw [hU]; exact hPc, va_K.moved hW.alike hKc, hDc.weaken (fun _ _ _ _ => trivial)⟩⟩ rfl rfl hl.1 rfl (lv_room (Nat.le_of_ble_eq_true rfl)) dL_move_4 ⟨Nat.le_of_ble_eq_true rfl, Nat.le_of_ble_eq_true rfl⟩) hS hFc (fun r_1 H locs hr_1 hP1 hz1 hk1 hS => ?_)
  subst hr_1
  obtain ⟨hP, -⟩ := va_join (wr := [(qo, .inl (cJ, 1, .inr (.inl oL)))]) (w1 := WB h0 hn hd hq cZ cD cI nb v ln false (mv + 1)) hP hD [0, 1, 2, 3] [4] rfl rfl (by decide) (by decide) hk1 hFc hP1 (va_D_same (ws := WB h0 hn hd hq cZ cD cI nb v ln go mv) rfl (hDc.self (sz := s.heap.size)))
  have hP : va_P D vwCl [(h0, .inr (1, [.ref hn, .ref hd, .ref hq, .int (b2i false), .int ((mv + 1))])), (hn, .inl (cZ, 165, .inl (fun j => b2i (nb j)))), (hd, .inl (cD, 165, .inr (.inr (.inr (.inl v))))), (hq, .inl (cI, 12, .inl (fun j => nI (ln j)))), (qo, .inl (cJ, 1, .inr (.inl oL)))] H := hP.sub [1, 2, 3, 4, 0] rfl
  have hD : va_D A [(h0, .inr (1, [.ref hn, .ref hd, .ref hq, .int (b2i false), .int ((mv + 1))])), (hn, .inl (cZ, 165, .inl (fun j => b2i (nb j)))), (hd, .inl (cD, 165, .inr (.inr (.inr (.inl v))))), (hq, .inl (cI, 12, .inl (fun j => nI (ln j)))), (qo, .inl (cJ, 1, .inr (.inl oL)))] := va_D_same (ws := [(h0, .inr (1, [.ref hn, .ref hd, .ref hq, .int (b2i go), .int mv])), (hn, .inl (cZ, 165, .inl (fun j => b2i (nb j)))), (hd, .inl (cD, 165, .inr (.inr (.inr (.inl v))))), (hq, .inl (cI, 12, .inl (fun j => nI (ln j)))), (qo, .inl (cJ, 1, .inr (.inl oL)))]) rfl hD
  refine lv_i2l hx hb dL_move_7 rfl ?_
  refine kn_last hx hb hK hP hD hS 4 3 rfl rfl (by omega) (by decide) dL_move_8 (fun H locs hP hD hS => ?_)
  have hP : va_P D vwCl ([(h0, .inr (1, [.ref hn, .ref hd, .ref hq, .int (b2i false), .int ((mv + 1))])), (hn, .inl (cZ, 165, .inl (fun j => b2i (nb j)))), (hd, .inl (cD, 165, .inr (.inr (.inr (.inl v))))), (hq, .inl (cI, 12, .inl (fun j => nI (ln j)))), (qo, .inl (cJ, 1, .inr (.inl (up oL 0 (Int32.toInt64 (mv + 1))))))]) H := hP
  have hD : va_D A ([(h0, .inr (1, [.ref hn, .ref hd, .ref hq, .int (b2i false), .int ((mv + 1))])), (hn, .inl (cZ, 165, .inl (fun j => b2i (nb j)))), (hd, .inl (cD, 165, .inr (.inr (.inr (.inl v))))), (hq, .inl (cI, 12, .inl (fun j => nI (ln j)))), (qo, .inl (cJ, 1, .inr (.inl (up oL 0 (Int32.toInt64 (mv + 1))))))]) := hD
  refine lv_goto (tgt := 21) hx hb dL_move_9 (by decide) ?_
  refine lv_iconst (v := nI 0) hx hb dL_move_21 (by decide) ?_
  refine vx_ret ?_
  refine W.widen (k := 1) (n := 6) (Nat.le_of_ble_eq_true rfl) (Nat.le_of_ble_eq_true rfl) ?_
  exact W.iret (v := nI 0) hx hb hr (fun t9 ht9 hW9 => ⟨⟨_, rfl, rfl, by rw [ht9]; exact hP⟩, hS.F ht9⟩) hS.2.2 dL_move_22
set_option maxHeartbeats 4000000 in
set_option maxRecDepth 100000 in
theorem w_move_already_true (l : Launch) (D : va_G) (h0 hn hd hq qo : Nat) (cZ cD cI cJ : ClassId) (nb : Nat → Bool) (v : Nat → UInt64) (ln : Nat → Nat) (go : Bool) (mv : Int32) (oL : Nat → Int64) (hln : ∀ j, ln j ≤ 12) (hl0 : l.stackTraces = false) (zz : Nat)  (hgo : go = true) : Met l yL_move wsL_move ({ frames := 7, cells := 1, slots := 6, locals := 103 }) (va_Pc [.ref h0, .int (b2i true), .ref qo] (fun U => xOK U ∧ xN U ∧ U.heap.size = zz ∧ va_P D vwCl [(h0, .inr (1, [.ref hn, .ref hd, .ref hq, .int (b2i go), .int mv])), (hn, .inl (cZ, 165, .inl (fun j => b2i (nb j)))), (hd, .inl (cD, 165, .inr (.inr (.inr (.inl v))))), (hq, .inl (cI, 12, .inl (fun j => nI (ln j)))), (qo, .inl (cJ, 1, .inr (.inl oL)))] U.heap ∧ va_K D vwCl (TYL cZ cD cI cJ) U ∧ va_D (fun _ => True) [(h0, .inr (1, [.ref hn, .ref hd, .ref hq, .int (b2i go), .int mv])), (hn, .inl (cZ, 165, .inl (fun j => b2i (nb j)))), (hd, .inl (cD, 165, .inr (.inr (.inr (.inl v))))), (hq, .inl (cI, 12, .inl (fun j => nI (ln j)))), (qo, .inl (cJ, 1, .inr (.inl oL)))])) (wr_Qi (fun r => r = nI 1) (fun H => va_P D vwCl [(h0, .inr (1, [.ref hn, .ref hd, .ref hq, .int (b2i go), .int mv])), (hn, .inl (cZ, 165, .inl (fun j => b2i (nb j)))), (hd, .inl (cD, 165, .inr (.inr (.inr (.inl v))))), (hq, .inl (cI, 12, .inl (fun j => nI (ln j)))), (qo, .inl (cJ, 1, .inr (.inl oL)))] H) (va_A [(h0, .inr (1, [.ref hn, .ref hd, .ref hq, .int (b2i go), .int mv])), (hn, .inl (cZ, 165, .inl (fun j => b2i (nb j)))), (hd, .inl (cD, 165, .inr (.inr (.inr (.inl v))))), (hq, .inl (cI, 12, .inl (fun j => nI (ln j)))), (qo, .inl (cJ, 1, .inr (.inl oL)))] zz)) 1 6 (va_A [(h0, .inr (1, [.ref hn, .ref hd, .ref hq, .int (b2i go), .int mv])), (hn, .inl (cZ, 165, .inl (fun j => b2i (nb j)))), (hd, .inl (cD, 165, .inr (.inr (.inr (.inl v))))), (hq, .inl (cI, 12, .inl (fun j => nI (ln j)))), (qo, .inl (cJ, 1, .inr (.inl oL)))] zz) := by
  refine met_of_vx (vx_ofWH (cc := cL_move) (maxL := 4) (ret := some .int) (hh := [(0, 9, 12, 15), (0, 9, 15, 90), (0, 9, 18, 92)]) (by decide) rfl ?_)
  intro p e s m args below meth c s₁ B hml hv
  obtain ⟨rfl, hX, hN, hsz_, hP, hK, hD0⟩ := hv
  have hx := B.exec
  have hb := B.bytes
  have hr := B.returns
  have hts := atoms_spec (ws := wsL_move) B.pre
  have hown : s.vm.findClass RL = some m.cls := findClass_of_methodNamed B.named
  have hlocks := B.notSynchronized
  have htab := vx_table (x := yL_move) (hh := [(0, 9, 12, 15), (0, 9, 15, 90), (0, 9, 18, 92)]) B (hts _ List.mem_cons_self)
  subst hsz_
  have hD := hD0.self (sz := s.heap.size)
  generalize hAe : va_A [(h0, .inr (1, [.ref hn, .ref hd, .ref hq, .int (b2i go), .int mv])), (hn, .inl (cZ, 165, .inl (fun j => b2i (nb j)))), (hd, .inl (cD, 165, .inr (.inr (.inr (.inl v))))), (hq, .inl (cI, 12, .inl (fun j => nI (ln j)))), (qo, .inl (cJ, 1, .inr (.inl oL)))] s.heap.size = A at hD ⊢
  have hA : ∀ q : Nat, s.heap.size ≤ q → A q := fun q h => by rw [← hAe]; exact Or.inr h
  have hS : va_S A s.heap s.heap [] := va_S.rf
  have hl := lv_entry ([.ref h0, .int (b2i true), .ref qo]) (n := 4) (Nat.le_of_ble_eq_true rfl)
  rw [lg_entry_eq]
  generalize (lg_sl ([.ref h0, .int (b2i true), .ref qo]) ++ List.replicate (4 - (lg_sl ([.ref h0, .int (b2i true), .ref qo])).length) Slot.unset).toArray = ls at hl ⊢
  have hl : lv_has ls 4 [(0, .ref h0), (1, .int (b2i true)), (2, .ref qo)] := hl
  refine lv_aload_n hx hb dL_move_0 rfl (lv_at hl 2 rfl) ?_
  refine lv_iconst (v := nI 0) hx hb dL_move_1 (by decide) ?_
  refine lv_aload_n hx hb dL_move_2 rfl (lv_at hl 0 rfl) ?_
  refine lv_iload_n hx hb dL_move_3 rfl (lv_at hl 1 rfl) ?_
  have hPc : va_P D vwCl (WB h0 hn hd hq cZ cD cI nb v ln go mv) s.heap := hP.sub [0, 1, 2, 3] rfl
  have hDc : va_D A (WB h0 hn hd hq cZ cD cI nb v ln go mv) := hD.sub [0, 1, 2, 3] (by decide) rfl
  have hKc : va_K D vwCl (TY cZ cD cI) s := hK.sub [0, 1, 2] rfl
  refine kv_never (vx_runV (As := [.int (b2i true)]) (rest := [.int (nI 0), .ref qo]) ⟨hx, hb, hml, hown, hts⟩ (c_X0_move_already_true l D h0 hn hd hq cZ cD cI nb v ln go mv hln hl0  hgo) (cwV 1 hts gL_move_X0_move rfl rfl rfl (by decide +kernel) ⟨Nat.le_of_ble_eq_true rfl, Nat.le_of_ble_eq_true rfl⟩) ⟨fun a U g mk q => ⟨q.1, xOK_call q.2.1 g mk a, q.2.2.1, va_K.moved (u := U) (U := U.calling g mk a) (Vm.Alike.refl U.vm) q.2.2.2⟩, va_recv hKc hPc (ci := 1) (q0 := 0) rfl rfl, fun U hU hW => ⟨rfl, xOK_at hX hU hW, by rw [hU]; exact hPc, va_K.moved hW.alike hKc⟩⟩ rfl rfl hl.1 rfl (lv_room (Nat.le_of_ble_eq_true rfl)) dL_move_4 ⟨Nat.le_of_ble_eq_true rfl, Nat.le_of_ble_eq_true rfl⟩) (fun E9 ce q9 H hE h1 h2 h3 h4 h5 => ?_)
  subst hE
  have hP : va_P D vwCl [(h0, .inr (1, [.ref hn, .ref hd, .ref hq, .int (b2i go), .int mv])), (hn, .inl (cZ, 165, .inl (fun j => b2i (nb j)))), (hd, .inl (cD, 165, .inr (.inr (.inr (.inl v))))), (hq, .inl (cI, 12, .inl (fun j => nI (ln j)))), (qo, .inl (cJ, 1, .inr (.inl oL)))] H := hP.kept (fun k q hk => h2 q.1 (vx_lt hP hk))
  have hS : va_S A s.heap H [] := ⟨h1, fun q hq _ => h2 q hq, fun q hq => absurd hq List.not_mem_nil⟩
  refine vx_catch (E := ISE) (name := ISE) hown [] ⟨0, 9, 12, 15⟩ [⟨0, 9, 15, 90⟩, ⟨0, 9, 18, 92⟩] htab (fun z hz => absurd hz List.not_mem_nil) (by decide) (by decide) (hts (.classLink RL 15 ISE) (by decide +kernel)) (xC.word hX.2.2.2.2.1) h3 h4 h5 ?_
  show W p l e _ s m _ below meth c H [] _ _ _ (F0 m 12 ls [.ref q9])
  refine lv_astore_n (lv' := [(3, .ref q9), (0, .ref h0), (1, .int (b2i true)), (2, .ref qo)]) hx hb dL_move_12 rfl hl (by decide) rfl (fun ls hl => ?_)
  refine lv_iconst (v := nI 1) hx hb dL_move_13 (by decide) ?_
  refine vx_ret ?_
  refine W.widen (k := 1) (n := 6) (Nat.le_of_ble_eq_true rfl) (Nat.le_of_ble_eq_true rfl) ?_
  exact W.iret (v := nI 1) hx hb hr (fun t9 ht9 hW9 => ⟨⟨_, rfl, rfl, by rw [ht9]; exact hP⟩, hS.F ht9⟩) hS.2.2 dL_move_14
set_option maxHeartbeats 4000000 in
set_option maxRecDepth 100000 in
theorem w_move_already_false (l : Launch) (D : va_G) (h0 hn hd hq qo : Nat) (cZ cD cI cJ : ClassId) (nb : Nat → Bool) (v : Nat → UInt64) (ln : Nat → Nat) (go : Bool) (mv : Int32) (oL : Nat → Int64) (hln : ∀ j, ln j ≤ 12) (hl0 : l.stackTraces = false) (zz : Nat)  (hgo : go = false) : Met l yL_move wsL_move ({ frames := 7, cells := 1, slots := 6, locals := 103 }) (va_Pc [.ref h0, .int (b2i false), .ref qo] (fun U => xOK U ∧ xN U ∧ U.heap.size = zz ∧ va_P D vwCl [(h0, .inr (1, [.ref hn, .ref hd, .ref hq, .int (b2i go), .int mv])), (hn, .inl (cZ, 165, .inl (fun j => b2i (nb j)))), (hd, .inl (cD, 165, .inr (.inr (.inr (.inl v))))), (hq, .inl (cI, 12, .inl (fun j => nI (ln j)))), (qo, .inl (cJ, 1, .inr (.inl oL)))] U.heap ∧ va_K D vwCl (TYL cZ cD cI cJ) U ∧ va_D (fun _ => True) [(h0, .inr (1, [.ref hn, .ref hd, .ref hq, .int (b2i go), .int mv])), (hn, .inl (cZ, 165, .inl (fun j => b2i (nb j)))), (hd, .inl (cD, 165, .inr (.inr (.inr (.inl v))))), (hq, .inl (cI, 12, .inl (fun j => nI (ln j)))), (qo, .inl (cJ, 1, .inr (.inl oL)))])) (wr_Qi (fun r => r = nI 1) (fun H => va_P D vwCl [(h0, .inr (1, [.ref hn, .ref hd, .ref hq, .int (b2i go), .int mv])), (hn, .inl (cZ, 165, .inl (fun j => b2i (nb j)))), (hd, .inl (cD, 165, .inr (.inr (.inr (.inl v))))), (hq, .inl (cI, 12, .inl (fun j => nI (ln j)))), (qo, .inl (cJ, 1, .inr (.inl oL)))] H) (va_A [(h0, .inr (1, [.ref hn, .ref hd, .ref hq, .int (b2i go), .int mv])), (hn, .inl (cZ, 165, .inl (fun j => b2i (nb j)))), (hd, .inl (cD, 165, .inr (.inr (.inr (.inl v))))), (hq, .inl (cI, 12, .inl (fun j => nI (ln j)))), (qo, .inl (cJ, 1, .inr (.inl oL)))] zz)) 1 6 (va_A [(h0, .inr (1, [.ref hn, .ref hd, .ref hq, .int (b2i go), .int mv])), (hn, .inl (cZ, 165, .inl (fun j => b2i (nb j)))), (hd, .inl (cD, 165, .inr (.inr (.inr (.inl v))))), (hq, .inl (cI, 12, .inl (fun j => nI (ln j)))), (qo, .inl (cJ, 1, .inr (.inl oL)))] zz) := by
  refine met_of_vx (vx_ofWH (cc := cL_move) (maxL := 4) (ret := some .int) (hh := [(0, 9, 12, 15), (0, 9, 15, 90), (0, 9, 18, 92)]) (by decide) rfl ?_)
  intro p e s m args below meth c s₁ B hml hv
  obtain ⟨rfl, hX, hN, hsz_, hP, hK, hD0⟩ := hv
  have hx := B.exec
  have hb := B.bytes
  have hr := B.returns
  have hts := atoms_spec (ws := wsL_move) B.pre
  have hown : s.vm.findClass RL = some m.cls := findClass_of_methodNamed B.named
  have hlocks := B.notSynchronized
  have htab := vx_table (x := yL_move) (hh := [(0, 9, 12, 15), (0, 9, 15, 90), (0, 9, 18, 92)]) B (hts _ List.mem_cons_self)
  subst hsz_
  have hD := hD0.self (sz := s.heap.size)
  generalize hAe : va_A [(h0, .inr (1, [.ref hn, .ref hd, .ref hq, .int (b2i go), .int mv])), (hn, .inl (cZ, 165, .inl (fun j => b2i (nb j)))), (hd, .inl (cD, 165, .inr (.inr (.inr (.inl v))))), (hq, .inl (cI, 12, .inl (fun j => nI (ln j)))), (qo, .inl (cJ, 1, .inr (.inl oL)))] s.heap.size = A at hD ⊢
  have hA : ∀ q : Nat, s.heap.size ≤ q → A q := fun q h => by rw [← hAe]; exact Or.inr h
  have hS : va_S A s.heap s.heap [] := va_S.rf
  have hl := lv_entry ([.ref h0, .int (b2i false), .ref qo]) (n := 4) (Nat.le_of_ble_eq_true rfl)
  rw [lg_entry_eq]
  generalize (lg_sl ([.ref h0, .int (b2i false), .ref qo]) ++ List.replicate (4 - (lg_sl ([.ref h0, .int (b2i false), .ref qo])).length) Slot.unset).toArray = ls at hl ⊢
  have hl : lv_has ls 4 [(0, .ref h0), (1, .int (b2i false)), (2, .ref qo)] := hl
  refine lv_aload_n hx hb dL_move_0 rfl (lv_at hl 2 rfl) ?_
  refine lv_iconst (v := nI 0) hx hb dL_move_1 (by decide) ?_
  refine lv_aload_n hx hb dL_move_2 rfl (lv_at hl 0 rfl) ?_
  refine lv_iload_n hx hb dL_move_3 rfl (lv_at hl 1 rfl) ?_
  have hPc : va_P D vwCl (WB h0 hn hd hq cZ cD cI nb v ln go mv) s.heap := hP.sub [0, 1, 2, 3] rfl
  have hDc : va_D A (WB h0 hn hd hq cZ cD cI nb v ln go mv) := hD.sub [0, 1, 2, 3] (by decide) rfl
  have hKc : va_K D vwCl (TY cZ cD cI) s := hK.sub [0, 1, 2] rfl
  refine kv_never (vx_runV (As := [.int (b2i false)]) (rest := [.int (nI 0), .ref qo]) ⟨hx, hb, hml, hown, hts⟩ (c_X0_move_already_false l D h0 hn hd hq cZ cD cI nb v ln go mv hln hl0  hgo) (cwV 1 hts gL_move_X0_move rfl rfl rfl (by decide +kernel) ⟨Nat.le_of_ble_eq_true rfl, Nat.le_of_ble_eq_true rfl⟩) ⟨fun a U g mk q => ⟨q.1, xOK_call q.2.1 g mk a, q.2.2.1, va_K.moved (u := U) (U := U.calling g mk a) (Vm.Alike.refl U.vm) q.2.2.2⟩, va_recv hKc hPc (ci := 1) (q0 := 0) rfl rfl, fun U hU hW => ⟨rfl, xOK_at hX hU hW, by rw [hU]; exact hPc, va_K.moved hW.alike hKc⟩⟩ rfl rfl hl.1 rfl (lv_room (Nat.le_of_ble_eq_true rfl)) dL_move_4 ⟨Nat.le_of_ble_eq_true rfl, Nat.le_of_ble_eq_true rfl⟩) (fun E9 ce q9 H hE h1 h2 h3 h4 h5 => ?_)
  subst hE
  have hP : va_P D vwCl [(h0, .inr (1, [.ref hn, .ref hd, .ref hq, .int (b2i go), .int mv])), (hn, .inl (cZ, 165, .inl (fun j => b2i (nb j)))), (hd, .inl (cD, 165, .inr (.inr (.inr (.inl v))))), (hq, .inl (cI, 12, .inl (fun j => nI (ln j)))), (qo, .inl (cJ, 1, .inr (.inl oL)))] H := hP.kept (fun k q hk => h2 q.1 (vx_lt hP hk))
  have hS : va_S A s.heap H [] := ⟨h1, fun q hq _ => h2 q hq, fun q hq => absurd hq List.not_mem_nil⟩
  refine vx_catch (E := ISE) (name := ISE) hown [] ⟨0, 9, 12, 15⟩ [⟨0, 9, 15, 90⟩, ⟨0, 9, 18, 92⟩] htab (fun z hz => absurd hz List.not_mem_nil) (by decide) (by decide) (hts (.classLink RL 15 ISE) (by decide +kernel)) (xC.word hX.2.2.2.2.1) h3 h4 h5 ?_
  show W p l e _ s m _ below meth c H [] _ _ _ (F0 m 12 ls [.ref q9])
  refine lv_astore_n (lv' := [(3, .ref q9), (0, .ref h0), (1, .int (b2i false)), (2, .ref qo)]) hx hb dL_move_12 rfl hl (by decide) rfl (fun ls hl => ?_)
  refine lv_iconst (v := nI 1) hx hb dL_move_13 (by decide) ?_
  refine vx_ret ?_
  refine W.widen (k := 1) (n := 6) (Nat.le_of_ble_eq_true rfl) (Nat.le_of_ble_eq_true rfl) ?_
  exact W.iret (v := nI 1) hx hb hr (fun t9 ht9 hW9 => ⟨⟨_, rfl, rfl, by rw [ht9]; exact hP⟩, hS.F ht9⟩) hS.2.2 dL_move_14
set_option maxHeartbeats 4000000 in
set_option maxRecDepth 100000 in
theorem w_move_x1 (l : Launch) (D : va_G) (h0 hn hd hq qo : Nat) (cZ cD cI cJ : ClassId) (nb : Nat → Bool) (v : Nat → UInt64) (ln : Nat → Nat) (go : Bool) (mv : Int32) (oL : Nat → Int64) (hln : ∀ j, ln j ≤ 12) (hl0 : l.stackTraces = false) (zz : Nat)  (hgo : go = false) (ho1 : rp nb v (lp ln (0 * 2 + 0)) (lp ln (1 * 2 + 0)) 2 = false) : Met l yL_move wsL_move ({ frames := 8, cells := 1, slots := 6, locals := 124 }) (va_Pc [.ref h0, .int (b2i true), .ref qo] (fun U => xOK U ∧ xN U ∧ U.heap.size = zz ∧ va_P D vwCl [(h0, .inr (1, [.ref hn, .ref hd, .ref hq, .int (b2i go), .int mv])), (hn, .inl (cZ, 165, .inl (fun j => b2i (nb j)))), (hd, .inl (cD, 165, .inr (.inr (.inr (.inl v))))), (hq, .inl (cI, 12, .inl (fun j => nI (ln j)))), (qo, .inl (cJ, 1, .inr (.inl oL)))] U.heap ∧ va_K D vwCl (TYL cZ cD cI cJ) U ∧ va_D (fun _ => True) [(h0, .inr (1, [.ref hn, .ref hd, .ref hq, .int (b2i go), .int mv])), (hn, .inl (cZ, 165, .inl (fun j => b2i (nb j)))), (hd, .inl (cD, 165, .inr (.inr (.inr (.inl v))))), (hq, .inl (cI, 12, .inl (fun j => nI (ln j)))), (qo, .inl (cJ, 1, .inr (.inl oL)))])) (wr_Qi (fun r => r = nI 2) (fun H => va_P D vwCl [(h0, .inr (1, [.ref hn, .ref hd, .ref hq, .int (b2i go), .int mv])), (hn, .inl (cZ, 165, .inl (fun j => b2i (nb j)))), (hd, .inl (cD, 165, .inr (.inr (.inr (.inl v))))), (hq, .inl (cI, 12, .inl (fun j => nI (ln j)))), (qo, .inl (cJ, 1, .inr (.inl oL)))] H) (va_A [(h0, .inr (1, [.ref hn, .ref hd, .ref hq, .int (b2i go), .int mv])), (hn, .inl (cZ, 165, .inl (fun j => b2i (nb j)))), (hd, .inl (cD, 165, .inr (.inr (.inr (.inl v))))), (hq, .inl (cI, 12, .inl (fun j => nI (ln j)))), (qo, .inl (cJ, 1, .inr (.inl oL)))] zz)) 1 6 (va_A [(h0, .inr (1, [.ref hn, .ref hd, .ref hq, .int (b2i go), .int mv])), (hn, .inl (cZ, 165, .inl (fun j => b2i (nb j)))), (hd, .inl (cD, 165, .inr (.inr (.inr (.inl v))))), (hq, .inl (cI, 12, .inl (fun j => nI (ln j)))), (qo, .inl (cJ, 1, .inr (.inl oL)))] zz) := by
  refine met_of_vx (vx_ofWH (cc := cL_move) (maxL := 4) (ret := some .int) (hh := [(0, 9, 12, 15), (0, 9, 15, 90), (0, 9, 18, 92)]) (by decide) rfl ?_)
  intro p e s m args below meth c s₁ B hml hv
  obtain ⟨rfl, hX, hN, hsz_, hP, hK, hD0⟩ := hv
  have hx := B.exec
  have hb := B.bytes
  have hr := B.returns
  have hts := atoms_spec (ws := wsL_move) B.pre
  have hown : s.vm.findClass RL = some m.cls := findClass_of_methodNamed B.named
  have hlocks := B.notSynchronized
  have htab := vx_table (x := yL_move) (hh := [(0, 9, 12, 15), (0, 9, 15, 90), (0, 9, 18, 92)]) B (hts _ List.mem_cons_self)
  subst hsz_
  have hD := hD0.self (sz := s.heap.size)
  generalize hAe : va_A [(h0, .inr (1, [.ref hn, .ref hd, .ref hq, .int (b2i go), .int mv])), (hn, .inl (cZ, 165, .inl (fun j => b2i (nb j)))), (hd, .inl (cD, 165, .inr (.inr (.inr (.inl v))))), (hq, .inl (cI, 12, .inl (fun j => nI (ln j)))), (qo, .inl (cJ, 1, .inr (.inl oL)))] s.heap.size = A at hD ⊢
  have hA : ∀ q : Nat, s.heap.size ≤ q → A q := fun q h => by rw [← hAe]; exact Or.inr h
  have hS : va_S A s.heap s.heap [] := va_S.rf
  have hl := lv_entry ([.ref h0, .int (b2i true), .ref qo]) (n := 4) (Nat.le_of_ble_eq_true rfl)
  rw [lg_entry_eq]
  generalize (lg_sl ([.ref h0, .int (b2i true), .ref qo]) ++ List.replicate (4 - (lg_sl ([.ref h0, .int (b2i true), .ref qo])).length) Slot.unset).toArray = ls at hl ⊢
  have hl : lv_has ls 4 [(0, .ref h0), (1, .int (b2i true)), (2, .ref qo)] := hl
  refine lv_aload_n hx hb dL_move_0 rfl (lv_at hl 2 rfl) ?_
  refine lv_iconst (v := nI 0) hx hb dL_move_1 (by decide) ?_
  refine lv_aload_n hx hb dL_move_2 rfl (lv_at hl 0 rfl) ?_
  refine lv_iload_n hx hb dL_move_3 rfl (lv_at hl 1 rfl) ?_
  have hPc : va_P D vwCl (WB h0 hn hd hq cZ cD cI nb v ln go mv) s.heap := hP.sub [0, 1, 2, 3] rfl
  have hDc : va_D A (WB h0 hn hd hq cZ cD cI nb v ln go mv) := hD.sub [0, 1, 2, 3] (by decide) rfl
  have hKc : va_K D vwCl (TY cZ cD cI) s := hK.sub [0, 1, 2] rfl
  refine kv_never (vx_runV (As := [.int (b2i true)]) (rest := [.int (nI 0), .ref qo]) ⟨hx, hb, hml, hown, hts⟩ (c_X0_move_x1 l D h0 hn hd hq cZ cD cI nb v ln go mv hln hl0  hgo ho1) (cwV 1 hts gL_move_X0_move rfl rfl rfl (by decide +kernel) ⟨Nat.le_of_ble_eq_true rfl, Nat.le_of_ble_eq_true rfl⟩) ⟨fun a U g mk q => ⟨q.1, xOK_call q.2.1 g mk a, q.2.2.1, va_K.moved (u := U) (U := U.calling g mk a) (Vm.Alike.refl U.vm) q.2.2.2⟩, va_recv hKc hPc (ci := 1) (q0 := 0) rfl rfl, fun U hU hW => ⟨rfl, xOK_at hX hU hW, by rw [hU]; exact hPc, va_K.moved hW.alike hKc⟩⟩ rfl rfl hl.1 rfl (lv_room (Nat.le_of_ble_eq_true rfl)) dL_move_4 ⟨Nat.le_of_ble_eq_true rfl, Nat.le_of_ble_eq_true rfl⟩) (fun E9 ce q9 H hE h1 h2 h3 h4 h5 => ?_)
  subst hE
  have hP : va_P D vwCl [(h0, .inr (1, [.ref hn, .ref hd, .ref hq, .int (b2i go), .int mv])), (hn, .inl (cZ, 165, .inl (fun j => b2i (nb j)))), (hd, .inl (cD, 165, .inr (.inr (.inr (.inl v))))), (hq, .inl (cI, 12, .inl (fun j => nI (ln j)))), (qo, .inl (cJ, 1, .inr (.inl oL)))] H := hP.kept (fun k q hk => h2 q.1 (vx_lt hP hk))
  have hS : va_S A s.heap H [] := ⟨h1, fun q hq _ => h2 q hq, fun q hq => absurd hq List.not_mem_nil⟩
  refine vx_catch (E := UOE) (name := UOE) hown [⟨0, 9, 12, 15⟩] ⟨0, 9, 15, 90⟩ [⟨0, 9, 18, 92⟩] htab (fun z hz => (List.mem_cons.mp hz).elim (fun e9 => by rw [e9]; exact Or.inr ⟨by decide, ISE, hts (.classLink RL 15 ISE) (by decide +kernel), hN.2.2.1⟩) (fun hz => absurd hz List.not_mem_nil)) (by decide) (by decide) (hts (.classLink RL 90 UOE) (by decide +kernel)) (xC.word hX.2.2.2.2.2.1) h3 h4 h5 ?_
  show W p l e _ s m _ below meth c H [] _ _ _ (F0 m 15 ls [.ref q9])
  refine lv_astore_n (lv' := [(3, .ref q9), (0, .ref h0), (1, .int (b2i true)), (2, .ref qo)]) hx hb dL_move_15 rfl hl (by decide) rfl (fun ls hl => ?_)
  refine lv_iconst (v := nI 2) hx hb dL_move_16 (by decide) ?_
  refine vx_ret ?_
  refine W.widen (k := 1) (n := 6) (Nat.le_of_ble_eq_true rfl) (Nat.le_of_ble_eq_true rfl) ?_
  exact W.iret (v := nI 2) hx hb hr (fun t9 ht9 hW9 => ⟨⟨_, rfl, rfl, by rw [ht9]; exact hP⟩, hS.F ht9⟩) hS.2.2 dL_move_17
set_option maxHeartbeats 4000000 in
set_option maxRecDepth 100000 in
theorem w_move_x2 (l : Launch) (D : va_G) (h0 hn hd hq qo : Nat) (cZ cD cI cJ : ClassId) (nb : Nat → Bool) (v : Nat → UInt64) (ln : Nat → Nat) (go : Bool) (mv : Int32) (oL : Nat → Int64) (hln : ∀ j, ln j ≤ 12) (hl0 : l.stackTraces = false) (zz : Nat)  (hgo : go = false) (ho1 : rp nb v (lp ln (0 * 2 + 0)) (lp ln (1 * 2 + 0)) 2 = true) (ho2 : nb (144 + 1 * 3 + 2) = true) (ho3 : rp nb v (lp ln (1 * 2 + 1)) (144 + 1 * 3 + 2) 0 = false) : Met l yL_move wsL_move ({ frames := 8, cells := 1, slots := 6, locals := 124 }) (va_Pc [.ref h0, .int (b2i true), .ref qo] (fun U => xOK U ∧ xN U ∧ U.heap.size = zz ∧ va_P D vwCl [(h0, .inr (1, [.ref hn, .ref hd, .ref hq, .int (b2i go), .int mv])), (hn, .inl (cZ, 165, .inl (fun j => b2i (nb j)))), (hd, .inl (cD, 165, .inr (.inr (.inr (.inl v))))), (hq, .inl (cI, 12, .inl (fun j => nI (ln j)))), (qo, .inl (cJ, 1, .inr (.inl oL)))] U.heap ∧ va_K D vwCl (TYL cZ cD cI cJ) U ∧ va_D (fun _ => True) [(h0, .inr (1, [.ref hn, .ref hd, .ref hq, .int (b2i go), .int mv])), (hn, .inl (cZ, 165, .inl (fun j => b2i (nb j)))), (hd, .inl (cD, 165, .inr (.inr (.inr (.inl v))))), (hq, .inl (cI, 12, .inl (fun j => nI (ln j)))), (qo, .inl (cJ, 1, .inr (.inl oL)))])) (wr_Qi (fun r => r = nI 3) (fun H => va_P D vwCl [(h0, .inr (1, [.ref hn, .ref hd, .ref hq, .int (b2i go), .int mv])), (hn, .inl (cZ, 165, .inl (fun j => b2i (nb j)))), (hd, .inl (cD, 165, .inr (.inr (.inr (.inl v))))), (hq, .inl (cI, 12, .inl (fun j => nI (ln j)))), (qo, .inl (cJ, 1, .inr (.inl oL)))] H) (va_A [(h0, .inr (1, [.ref hn, .ref hd, .ref hq, .int (b2i go), .int mv])), (hn, .inl (cZ, 165, .inl (fun j => b2i (nb j)))), (hd, .inl (cD, 165, .inr (.inr (.inr (.inl v))))), (hq, .inl (cI, 12, .inl (fun j => nI (ln j)))), (qo, .inl (cJ, 1, .inr (.inl oL)))] zz)) 1 6 (va_A [(h0, .inr (1, [.ref hn, .ref hd, .ref hq, .int (b2i go), .int mv])), (hn, .inl (cZ, 165, .inl (fun j => b2i (nb j)))), (hd, .inl (cD, 165, .inr (.inr (.inr (.inl v))))), (hq, .inl (cI, 12, .inl (fun j => nI (ln j)))), (qo, .inl (cJ, 1, .inr (.inl oL)))] zz) := by
  refine met_of_vx (vx_ofWH (cc := cL_move) (maxL := 4) (ret := some .int) (hh := [(0, 9, 12, 15), (0, 9, 15, 90), (0, 9, 18, 92)]) (by decide) rfl ?_)
  intro p e s m args below meth c s₁ B hml hv
  obtain ⟨rfl, hX, hN, hsz_, hP, hK, hD0⟩ := hv
  have hx := B.exec
  have hb := B.bytes
  have hr := B.returns
  have hts := atoms_spec (ws := wsL_move) B.pre
  have hown : s.vm.findClass RL = some m.cls := findClass_of_methodNamed B.named
  have hlocks := B.notSynchronized
  have htab := vx_table (x := yL_move) (hh := [(0, 9, 12, 15), (0, 9, 15, 90), (0, 9, 18, 92)]) B (hts _ List.mem_cons_self)
  subst hsz_
  have hD := hD0.self (sz := s.heap.size)
  generalize hAe : va_A [(h0, .inr (1, [.ref hn, .ref hd, .ref hq, .int (b2i go), .int mv])), (hn, .inl (cZ, 165, .inl (fun j => b2i (nb j)))), (hd, .inl (cD, 165, .inr (.inr (.inr (.inl v))))), (hq, .inl (cI, 12, .inl (fun j => nI (ln j)))), (qo, .inl (cJ, 1, .inr (.inl oL)))] s.heap.size = A at hD ⊢
  have hA : ∀ q : Nat, s.heap.size ≤ q → A q := fun q h => by rw [← hAe]; exact Or.inr h
  have hS : va_S A s.heap s.heap [] := va_S.rf
  have hl := lv_entry ([.ref h0, .int (b2i true), .ref qo]) (n := 4) (Nat.le_of_ble_eq_true rfl)
  rw [lg_entry_eq]
  generalize (lg_sl ([.ref h0, .int (b2i true), .ref qo]) ++ List.replicate (4 - (lg_sl ([.ref h0, .int (b2i true), .ref qo])).length) Slot.unset).toArray = ls at hl ⊢
  have hl : lv_has ls 4 [(0, .ref h0), (1, .int (b2i true)), (2, .ref qo)] := hl
  refine lv_aload_n hx hb dL_move_0 rfl (lv_at hl 2 rfl) ?_
  refine lv_iconst (v := nI 0) hx hb dL_move_1 (by decide) ?_
  refine lv_aload_n hx hb dL_move_2 rfl (lv_at hl 0 rfl) ?_
  refine lv_iload_n hx hb dL_move_3 rfl (lv_at hl 1 rfl) ?_
  have hPc : va_P D vwCl (WB h0 hn hd hq cZ cD cI nb v ln go mv) s.heap := hP.sub [0, 1, 2, 3] rfl
  have hDc : va_D A (WB h0 hn hd hq cZ cD cI nb v ln go mv) := hD.sub [0, 1, 2, 3] (by decide) rfl
  have hKc : va_K D vwCl (TY cZ cD cI) s := hK.sub [0, 1, 2] rfl
  refine kv_never (vx_runV (As := [.int (b2i true)]) (rest := [.int (nI 0), .ref qo]) ⟨hx, hb, hml, hown, hts⟩ (c_X0_move_x2 l D h0 hn hd hq cZ cD cI nb v ln go mv hln hl0  hgo ho1 ho2 ho3) (cwV 1 hts gL_move_X0_move rfl rfl rfl (by decide +kernel) ⟨Nat.le_of_ble_eq_true rfl, Nat.le_of_ble_eq_true rfl⟩) ⟨fun a U g mk q => ⟨q.1, xOK_call q.2.1 g mk a, q.2.2.1, va_K.moved (u := U) (U := U.calling g mk a) (Vm.Alike.refl U.vm) q.2.2.2⟩, va_recv hKc hPc (ci := 1) (q0 := 0) rfl rfl, fun U hU hW => ⟨rfl, xOK_at hX hU hW, by rw [hU]; exact hPc, va_K.moved hW.alike hKc⟩⟩ rfl rfl hl.1 rfl (lv_room (Nat.le_of_ble_eq_true rfl)) dL_move_4 ⟨Nat.le_of_ble_eq_true rfl, Nat.le_of_ble_eq_true rfl⟩) (fun E9 ce q9 H hE h1 h2 h3 h4 h5 => ?_)
  subst hE
  have hP : va_P D vwCl [(h0, .inr (1, [.ref hn, .ref hd, .ref hq, .int (b2i go), .int mv])), (hn, .inl (cZ, 165, .inl (fun j => b2i (nb j)))), (hd, .inl (cD, 165, .inr (.inr (.inr (.inl v))))), (hq, .inl (cI, 12, .inl (fun j => nI (ln j)))), (qo, .inl (cJ, 1, .inr (.inl oL)))] H := hP.kept (fun k q hk => h2 q.1 (vx_lt hP hk))
  have hS : va_S A s.heap H [] := ⟨h1, fun q hq _ => h2 q hq, fun q hq => absurd hq List.not_mem_nil⟩
  refine vx_catch (E := AE) (name := AE) hown [⟨0, 9, 12, 15⟩, ⟨0, 9, 15, 90⟩] ⟨0, 9, 18, 92⟩ [] htab (fun z hz => (List.mem_cons.mp hz).elim (fun e9 => by rw [e9]; exact Or.inr ⟨by decide, ISE, hts (.classLink RL 15 ISE) (by decide +kernel), hN.2.2.2.1⟩) (fun hz => (List.mem_cons.mp hz).elim (fun e9 => by rw [e9]; exact Or.inr ⟨by decide, UOE, hts (.classLink RL 90 UOE) (by decide +kernel), hN.2.2.2.2⟩) (fun hz => absurd hz List.not_mem_nil))) (by decide) (by decide) (hts (.classLink RL 92 AE) (by decide +kernel)) (xC.word hX.2.2.2.2.2.2.1) h3 h4 h5 ?_
  show W p l e _ s m _ below meth c H [] _ _ _ (F0 m 18 ls [.ref q9])
  refine lv_astore_n (lv' := [(3, .ref q9), (0, .ref h0), (1, .int (b2i true)), (2, .ref qo)]) hx hb dL_move_18 rfl hl (by decide) rfl (fun ls hl => ?_)
  refine lv_iconst (v := nI 3) hx hb dL_move_19 (by decide) ?_
  refine vx_ret ?_
  refine W.widen (k := 1) (n := 6) (Nat.le_of_ble_eq_true rfl) (Nat.le_of_ble_eq_true rfl) ?_
  exact W.iret (v := nI 3) hx hb hr (fun t9 ht9 hW9 => ⟨⟨_, rfl, rfl, by rw [ht9]; exact hP⟩, hS.F ht9⟩) hS.2.2 dL_move_20
set_option maxHeartbeats 4000000 in
set_option maxRecDepth 100000 in
theorem w_move_x3 (l : Launch) (D : va_G) (h0 hn hd hq qo : Nat) (cZ cD cI cJ : ClassId) (nb : Nat → Bool) (v : Nat → UInt64) (ln : Nat → Nat) (go : Bool) (mv : Int32) (oL : Nat → Int64) (hln : ∀ j, ln j ≤ 12) (hl0 : l.stackTraces = false) (zz : Nat)  (hgo : go = true) (hs1 : rp nb v (lp ln (0 * 2 + 0)) (144 + 0 * 3 + 0) 2 = true) : Met l yL_move wsL_move ({ frames := 8, cells := 1, slots := 6, locals := 123 }) (va_Pc [.ref h0, .int (b2i false), .ref qo] (fun U => xOK U ∧ xN U ∧ U.heap.size = zz ∧ va_P D vwCl [(h0, .inr (1, [.ref hn, .ref hd, .ref hq, .int (b2i go), .int mv])), (hn, .inl (cZ, 165, .inl (fun j => b2i (nb j)))), (hd, .inl (cD, 165, .inr (.inr (.inr (.inl v))))), (hq, .inl (cI, 12, .inl (fun j => nI (ln j)))), (qo, .inl (cJ, 1, .inr (.inl oL)))] U.heap ∧ va_K D vwCl (TYL cZ cD cI cJ) U ∧ va_D (fun _ => True) [(h0, .inr (1, [.ref hn, .ref hd, .ref hq, .int (b2i go), .int mv])), (hn, .inl (cZ, 165, .inl (fun j => b2i (nb j)))), (hd, .inl (cD, 165, .inr (.inr (.inr (.inl v))))), (hq, .inl (cI, 12, .inl (fun j => nI (ln j)))), (qo, .inl (cJ, 1, .inr (.inl oL)))])) (wr_Qi (fun r => r = nI 2) (fun H => va_P D vwCl [(h0, .inr (1, [.ref hn, .ref hd, .ref hq, .int (b2i go), .int mv])), (hn, .inl (cZ, 165, .inl (fun j => b2i (nb j)))), (hd, .inl (cD, 165, .inr (.inr (.inr (.inl v))))), (hq, .inl (cI, 12, .inl (fun j => nI (ln j)))), (qo, .inl (cJ, 1, .inr (.inl oL)))] H) (va_A [(h0, .inr (1, [.ref hn, .ref hd, .ref hq, .int (b2i go), .int mv])), (hn, .inl (cZ, 165, .inl (fun j => b2i (nb j)))), (hd, .inl (cD, 165, .inr (.inr (.inr (.inl v))))), (hq, .inl (cI, 12, .inl (fun j => nI (ln j)))), (qo, .inl (cJ, 1, .inr (.inl oL)))] zz)) 1 6 (va_A [(h0, .inr (1, [.ref hn, .ref hd, .ref hq, .int (b2i go), .int mv])), (hn, .inl (cZ, 165, .inl (fun j => b2i (nb j)))), (hd, .inl (cD, 165, .inr (.inr (.inr (.inl v))))), (hq, .inl (cI, 12, .inl (fun j => nI (ln j)))), (qo, .inl (cJ, 1, .inr (.inl oL)))] zz) := by
  refine met_of_vx (vx_ofWH (cc := cL_move) (maxL := 4) (ret := some .int) (hh := [(0, 9, 12, 15), (0, 9, 15, 90), (0, 9, 18, 92)]) (by decide) rfl ?_)
  intro p e s m args below meth c s₁ B hml hv
  obtain ⟨rfl, hX, hN, hsz_, hP, hK, hD0⟩ := hv
  have hx := B.exec
  have hb := B.bytes
  have hr := B.returns
  have hts := atoms_spec (ws := wsL_move) B.pre
  have hown : s.vm.findClass RL = some m.cls := findClass_of_methodNamed B.named
  have hlocks := B.notSynchronized
  have htab := vx_table (x := yL_move) (hh := [(0, 9, 12, 15), (0, 9, 15, 90), (0, 9, 18, 92)]) B (hts _ List.mem_cons_self)
  subst hsz_
  have hD := hD0.self (sz := s.heap.size)
  generalize hAe : va_A [(h0, .inr (1, [.ref hn, .ref hd, .ref hq, .int (b2i go), .int mv])), (hn, .inl (cZ, 165, .inl (fun j => b2i (nb j)))), (hd, .inl (cD, 165, .inr (.inr (.inr (.inl v))))), (hq, .inl (cI, 12, .inl (fun j => nI (ln j)))), (qo, .inl (cJ, 1, .inr (.inl oL)))] s.heap.size = A at hD ⊢
  have hA : ∀ q : Nat, s.heap.size ≤ q → A q := fun q h => by rw [← hAe]; exact Or.inr h
  have hS : va_S A s.heap s.heap [] := va_S.rf
  have hl := lv_entry ([.ref h0, .int (b2i false), .ref qo]) (n := 4) (Nat.le_of_ble_eq_true rfl)
  rw [lg_entry_eq]
  generalize (lg_sl ([.ref h0, .int (b2i false), .ref qo]) ++ List.replicate (4 - (lg_sl ([.ref h0, .int (b2i false), .ref qo])).length) Slot.unset).toArray = ls at hl ⊢
  have hl : lv_has ls 4 [(0, .ref h0), (1, .int (b2i false)), (2, .ref qo)] := hl
  refine lv_aload_n hx hb dL_move_0 rfl (lv_at hl 2 rfl) ?_
  refine lv_iconst (v := nI 0) hx hb dL_move_1 (by decide) ?_
  refine lv_aload_n hx hb dL_move_2 rfl (lv_at hl 0 rfl) ?_
  refine lv_iload_n hx hb dL_move_3 rfl (lv_at hl 1 rfl) ?_
  have hPc : va_P D vwCl (WB h0 hn hd hq cZ cD cI nb v ln go mv) s.heap := hP.sub [0, 1, 2, 3] rfl
  have hDc : va_D A (WB h0 hn hd hq cZ cD cI nb v ln go mv) := hD.sub [0, 1, 2, 3] (by decide) rfl
  have hKc : va_K D vwCl (TY cZ cD cI) s := hK.sub [0, 1, 2] rfl
  refine kv_never (vx_runV (As := [.int (b2i false)]) (rest := [.int (nI 0), .ref qo]) ⟨hx, hb, hml, hown, hts⟩ (c_X0_move_x3 l D h0 hn hd hq cZ cD cI nb v ln go mv hln hl0  hgo hs1) (cwV 1 hts gL_move_X0_move rfl rfl rfl (by decide +kernel) ⟨Nat.le_of_ble_eq_true rfl, Nat.le_of_ble_eq_true rfl⟩) ⟨fun a U g mk q => ⟨q.1, xOK_call q.2.1 g mk a, q.2.2.1, va_K.moved (u := U) (U := U.calling g mk a) (Vm.Alike.refl U.vm) q.2.2.2⟩, va_recv hKc hPc (ci := 1) (q0 := 0) rfl rfl, fun U hU hW => ⟨rfl, xOK_at hX hU hW, by rw [hU]; exact hPc, va_K.moved hW.alike hKc⟩⟩ rfl rfl hl.1 rfl (lv_room (Nat.le_of_ble_eq_true rfl)) dL_move_4 ⟨Nat.le_of_ble_eq_true rfl, Nat.le_of_ble_eq_true rfl⟩) (fun E9 ce q9 H hE h1 h2 h3 h4 h5 => ?_)
  subst hE
  have hP : va_P D vwCl [(h0, .inr (1, [.ref hn, .ref hd, .ref hq, .int (b2i go), .int mv])), (hn, .inl (cZ, 165, .inl (fun j => b2i (nb j)))), (hd, .inl (cD, 165, .inr (.inr (.inr (.inl v))))), (hq, .inl (cI, 12, .inl (fun j => nI (ln j)))), (qo, .inl (cJ, 1, .inr (.inl oL)))] H := hP.kept (fun k q hk => h2 q.1 (vx_lt hP hk))
  have hS : va_S A s.heap H [] := ⟨h1, fun q hq _ => h2 q hq, fun q hq => absurd hq List.not_mem_nil⟩
  refine vx_catch (E := UOE) (name := UOE) hown [⟨0, 9, 12, 15⟩] ⟨0, 9, 15, 90⟩ [⟨0, 9, 18, 92⟩] htab (fun z hz => (List.mem_cons.mp hz).elim (fun e9 => by rw [e9]; exact Or.inr ⟨by decide, ISE, hts (.classLink RL 15 ISE) (by decide +kernel), hN.2.2.1⟩) (fun hz => absurd hz List.not_mem_nil)) (by decide) (by decide) (hts (.classLink RL 90 UOE) (by decide +kernel)) (xC.word hX.2.2.2.2.2.1) h3 h4 h5 ?_
  show W p l e _ s m _ below meth c H [] _ _ _ (F0 m 15 ls [.ref q9])
  refine lv_astore_n (lv' := [(3, .ref q9), (0, .ref h0), (1, .int (b2i false)), (2, .ref qo)]) hx hb dL_move_15 rfl hl (by decide) rfl (fun ls hl => ?_)
  refine lv_iconst (v := nI 2) hx hb dL_move_16 (by decide) ?_
  refine vx_ret ?_
  refine W.widen (k := 1) (n := 6) (Nat.le_of_ble_eq_true rfl) (Nat.le_of_ble_eq_true rfl) ?_
  exact W.iret (v := nI 2) hx hb hr (fun t9 ht9 hW9 => ⟨⟨_, rfl, rfl, by rw [ht9]; exact hP⟩, hS.F ht9⟩) hS.2.2 dL_move_17
set_option maxHeartbeats 4000000 in
set_option maxRecDepth 100000 in
theorem w_move_x4 (l : Launch) (D : va_G) (h0 hn hd hq qo : Nat) (cZ cD cI cJ : ClassId) (nb : Nat → Bool) (v : Nat → UInt64) (ln : Nat → Nat) (go : Bool) (mv : Int32) (oL : Nat → Int64) (hln : ∀ j, ln j ≤ 12) (hl0 : l.stackTraces = false) (zz : Nat)  (hgo : go = true) (hs1 : rp nb v (lp ln (0 * 2 + 0)) (144 + 0 * 3 + 0) 2 = false) (hs2 : rp nb v (lp ln (1 * 2 + 0)) (144 + 0 * 3 + 1) 1 = true) : Met l yL_move wsL_move ({ frames := 8, cells := 1, slots := 6, locals := 123 }) (va_Pc [.ref h0, .int (b2i false), .ref qo] (fun U => xOK U ∧ xN U ∧ U.heap.size = zz ∧ va_P D vwCl [(h0, .inr (1, [.ref hn, .ref hd, .ref hq, .int (b2i go), .int mv])), (hn, .inl (cZ, 165, .inl (fun j => b2i (nb j)))), (hd, .inl (cD, 165, .inr (.inr (.inr (.inl v))))), (hq, .inl (cI, 12, .inl (fun j => nI (ln j)))), (qo, .inl (cJ, 1, .inr (.inl oL)))] U.heap ∧ va_K D vwCl (TYL cZ cD cI cJ) U ∧ va_D (fun _ => True) [(h0, .inr (1, [.ref hn, .ref hd, .ref hq, .int (b2i go), .int mv])), (hn, .inl (cZ, 165, .inl (fun j => b2i (nb j)))), (hd, .inl (cD, 165, .inr (.inr (.inr (.inl v))))), (hq, .inl (cI, 12, .inl (fun j => nI (ln j)))), (qo, .inl (cJ, 1, .inr (.inl oL)))])) (wr_Qi (fun r => r = nI 3) (fun H => va_P D vwCl [(h0, .inr (1, [.ref hn, .ref hd, .ref hq, .int (b2i go), .int mv])), (hn, .inl (cZ, 165, .inl (fun j => b2i (nb j)))), (hd, .inl (cD, 165, .inr (.inr (.inr (.inl v))))), (hq, .inl (cI, 12, .inl (fun j => nI (ln j)))), (qo, .inl (cJ, 1, .inr (.inl oL)))] H) (va_A [(h0, .inr (1, [.ref hn, .ref hd, .ref hq, .int (b2i go), .int mv])), (hn, .inl (cZ, 165, .inl (fun j => b2i (nb j)))), (hd, .inl (cD, 165, .inr (.inr (.inr (.inl v))))), (hq, .inl (cI, 12, .inl (fun j => nI (ln j)))), (qo, .inl (cJ, 1, .inr (.inl oL)))] zz)) 1 6 (va_A [(h0, .inr (1, [.ref hn, .ref hd, .ref hq, .int (b2i go), .int mv])), (hn, .inl (cZ, 165, .inl (fun j => b2i (nb j)))), (hd, .inl (cD, 165, .inr (.inr (.inr (.inl v))))), (hq, .inl (cI, 12, .inl (fun j => nI (ln j)))), (qo, .inl (cJ, 1, .inr (.inl oL)))] zz) := by
  refine met_of_vx (vx_ofWH (cc := cL_move) (maxL := 4) (ret := some .int) (hh := [(0, 9, 12, 15), (0, 9, 15, 90), (0, 9, 18, 92)]) (by decide) rfl ?_)
  intro p e s m args below meth c s₁ B hml hv
  obtain ⟨rfl, hX, hN, hsz_, hP, hK, hD0⟩ := hv
  have hx := B.exec
  have hb := B.bytes
  have hr := B.returns
  have hts := atoms_spec (ws := wsL_move) B.pre
  have hown : s.vm.findClass RL = some m.cls := findClass_of_methodNamed B.named
  have hlocks := B.notSynchronized
  have htab := vx_table (x := yL_move) (hh := [(0, 9, 12, 15), (0, 9, 15, 90), (0, 9, 18, 92)]) B (hts _ List.mem_cons_self)
  subst hsz_
  have hD := hD0.self (sz := s.heap.size)
  generalize hAe : va_A [(h0, .inr (1, [.ref hn, .ref hd, .ref hq, .int (b2i go), .int mv])), (hn, .inl (cZ, 165, .inl (fun j => b2i (nb j)))), (hd, .inl (cD, 165, .inr (.inr (.inr (.inl v))))), (hq, .inl (cI, 12, .inl (fun j => nI (ln j)))), (qo, .inl (cJ, 1, .inr (.inl oL)))] s.heap.size = A at hD ⊢
  have hA : ∀ q : Nat, s.heap.size ≤ q → A q := fun q h => by rw [← hAe]; exact Or.inr h
  have hS : va_S A s.heap s.heap [] := va_S.rf
  have hl := lv_entry ([.ref h0, .int (b2i false), .ref qo]) (n := 4) (Nat.le_of_ble_eq_true rfl)
  rw [lg_entry_eq]
  generalize (lg_sl ([.ref h0, .int (b2i false), .ref qo]) ++ List.replicate (4 - (lg_sl ([.ref h0, .int (b2i false), .ref qo])).length) Slot.unset).toArray = ls at hl ⊢
  have hl : lv_has ls 4 [(0, .ref h0), (1, .int (b2i false)), (2, .ref qo)] := hl
  refine lv_aload_n hx hb dL_move_0 rfl (lv_at hl 2 rfl) ?_
  refine lv_iconst (v := nI 0) hx hb dL_move_1 (by decide) ?_
  refine lv_aload_n hx hb dL_move_2 rfl (lv_at hl 0 rfl) ?_
  refine lv_iload_n hx hb dL_move_3 rfl (lv_at hl 1 rfl) ?_
  have hPc : va_P D vwCl (WB h0 hn hd hq cZ cD cI nb v ln go mv) s.heap := hP.sub [0, 1, 2, 3] rfl
  have hDc : va_D A (WB h0 hn hd hq cZ cD cI nb v ln go mv) := hD.sub [0, 1, 2, 3] (by decide) rfl
  have hKc : va_K D vwCl (TY cZ cD cI) s := hK.sub [0, 1, 2] rfl
  refine kv_never (vx_runV (As := [.int (b2i false)]) (rest := [.int (nI 0), .ref qo]) ⟨hx, hb, hml, hown, hts⟩ (c_X0_move_x4 l D h0 hn hd hq cZ cD cI nb v ln go mv hln hl0  hgo hs1 hs2) (cwV 1 hts gL_move_X0_move rfl rfl rfl (by decide +kernel) ⟨Nat.le_of_ble_eq_true rfl, Nat.le_of_ble_eq_true rfl⟩) ⟨fun a U g mk q => ⟨q.1, xOK_call q.2.1 g mk a, q.2.2.1, va_K.moved (u := U) (U := U.calling g mk a) (Vm.Alike.refl U.vm) q.2.2.2⟩, va_recv hKc hPc (ci := 1) (q0 := 0) rfl rfl, fun U hU hW => ⟨rfl, xOK_at hX hU hW, by rw [hU]; exact hPc, va_K.moved hW.alike hKc⟩⟩ rfl rfl hl.1 rfl (lv_room (Nat.le_of_ble_eq_true rfl)) dL_move_4 ⟨Nat.le_of_ble_eq_true rfl, Nat.le_of_ble_eq_true rfl⟩) (fun E9 ce q9 H hE h1 h2 h3 h4 h5 => ?_)
  subst hE
  have hP : va_P D vwCl [(h0, .inr (1, [.ref hn, .ref hd, .ref hq, .int (b2i go), .int mv])), (hn, .inl (cZ, 165, .inl (fun j => b2i (nb j)))), (hd, .inl (cD, 165, .inr (.inr (.inr (.inl v))))), (hq, .inl (cI, 12, .inl (fun j => nI (ln j)))), (qo, .inl (cJ, 1, .inr (.inl oL)))] H := hP.kept (fun k q hk => h2 q.1 (vx_lt hP hk))
  have hS : va_S A s.heap H [] := ⟨h1, fun q hq _ => h2 q hq, fun q hq => absurd hq List.not_mem_nil⟩
  refine vx_catch (E := AE) (name := AE) hown [⟨0, 9, 12, 15⟩, ⟨0, 9, 15, 90⟩] ⟨0, 9, 18, 92⟩ [] htab (fun z hz => (List.mem_cons.mp hz).elim (fun e9 => by rw [e9]; exact Or.inr ⟨by decide, ISE, hts (.classLink RL 15 ISE) (by decide +kernel), hN.2.2.2.1⟩) (fun hz => (List.mem_cons.mp hz).elim (fun e9 => by rw [e9]; exact Or.inr ⟨by decide, UOE, hts (.classLink RL 90 UOE) (by decide +kernel), hN.2.2.2.2⟩) (fun hz => absurd hz List.not_mem_nil))) (by decide) (by decide) (hts (.classLink RL 92 AE) (by decide +kernel)) (xC.word hX.2.2.2.2.2.2.1) h3 h4 h5 ?_
  show W p l e _ s m _ below meth c H [] _ _ _ (F0 m 18 ls [.ref q9])
  refine lv_astore_n (lv' := [(3, .ref q9), (0, .ref h0), (1, .int (b2i false)), (2, .ref qo)]) hx hb dL_move_18 rfl hl (by decide) rfl (fun ls hl => ?_)
  refine lv_iconst (v := nI 3) hx hb dL_move_19 (by decide) ?_
  refine vx_ret ?_
  refine W.widen (k := 1) (n := 6) (Nat.le_of_ble_eq_true rfl) (Nat.le_of_ble_eq_true rfl) ?_
  exact W.iret (v := nI 3) hx hb hr (fun t9 ht9 hW9 => ⟨⟨_, rfl, rfl, by rw [ht9]; exact hP⟩, hS.F ht9⟩) hS.2.2 dL_move_20
set_option maxHeartbeats 4000000 in
set_option maxRecDepth 100000 in
theorem w_size (l : Launch) (D : va_G) (h0 hn hd hq qo : Nat) (cZ cD cI cJ : ClassId) (nb : Nat → Bool) (v : Nat → UInt64) (ln : Nat → Nat) (go : Bool) (mv : Int32) (oL : Nat → Int64) (hln : ∀ j, ln j ≤ 12) (hl0 : l.stackTraces = false) (zz : Nat) (g : Nat) (w : Nat) (hg : g < 6) (hw : w < 2) : Met l yL_size wsL_size ({ frames := 8, cells := 2, slots := 12, locals := 124 }) (va_Pc [.ref h0, .int (nI g), .int (nI w), .ref qo] (fun U => xOK U ∧ xN U ∧ U.heap.size = zz ∧ va_P D vwCl [(h0, .inr (1, [.ref hn, .ref hd, .ref hq, .int (b2i go), .int mv])), (hn, .inl (cZ, 165, .inl (fun j => b2i (nb j)))), (hd, .inl (cD, 165, .inr (.inr (.inr (.inl v))))), (hq, .inl (cI, 12, .inl (fun j => nI (ln j)))), (qo, .inl (cJ, 1, .inr (.inl oL)))] U.heap ∧ va_K D vwCl (TYL cZ cD cI cJ) U ∧ va_D (fun _ => True) [(h0, .inr (1, [.ref hn, .ref hd, .ref hq, .int (b2i go), .int mv])), (hn, .inl (cZ, 165, .inl (fun j => b2i (nb j)))), (hd, .inl (cD, 165, .inr (.inr (.inr (.inl v))))), (hq, .inl (cI, 12, .inl (fun j => nI (ln j)))), (qo, .inl (cJ, 1, .inr (.inl oL)))])) (wr_Qi (fun r => r = nI 0) (fun H => va_P D vwCl [(h0, .inr (1, [.ref hn, .ref hd, .ref hq, .int (b2i go), .int mv])), (hn, .inl (cZ, 165, .inl (fun j => b2i (nb j)))), (hd, .inl (cD, 165, .inr (.inr (.inr (.inl v))))), (hq, .inl (cI, 12, .inl (fun j => nI (ln j)))), (qo, .inl (cJ, 1, .inr (.inl (up oL 0 (Int32.toInt64 (nI (ln (g * 2 + w))))))))] H) (va_A [(h0, .inr (1, [.ref hn, .ref hd, .ref hq, .int (b2i go), .int mv])), (hn, .inl (cZ, 165, .inl (fun j => b2i (nb j)))), (hd, .inl (cD, 165, .inr (.inr (.inr (.inl v))))), (hq, .inl (cI, 12, .inl (fun j => nI (ln j)))), (qo, .inl (cJ, 1, .inr (.inl oL)))] zz)) 2 12 (va_A [(h0, .inr (1, [.ref hn, .ref hd, .ref hq, .int (b2i go), .int mv])), (hn, .inl (cZ, 165, .inl (fun j => b2i (nb j)))), (hd, .inl (cD, 165, .inr (.inr (.inr (.inl v))))), (hq, .inl (cI, 12, .inl (fun j => nI (ln j)))), (qo, .inl (cJ, 1, .inr (.inl oL)))] zz) := by
  refine met_of_vx (vx_ofWH (cc := cL_size) (maxL := 5) (ret := some .int) (hh := [(0, 10, 13, 13)]) (by decide) rfl ?_)
  intro p e s m args below meth c s₁ B hml hv
  obtain ⟨rfl, hX, hN, hsz_, hP, hK, hD0⟩ := hv
  have hx := B.exec
  have hb := B.bytes
  have hr := B.returns
  have hts := atoms_spec (ws := wsL_size) B.pre
  have hown : s.vm.findClass RL = some m.cls := findClass_of_methodNamed B.named
  have hlocks := B.notSynchronized
  have htab := vx_table (x := yL_size) (hh := [(0, 10, 13, 13)]) B (hts _ List.mem_cons_self)
  subst hsz_
  have hD := hD0.self (sz := s.heap.size)
  generalize hAe : va_A [(h0, .inr (1, [.ref hn, .ref hd, .ref hq, .int (b2i go), .int mv])), (hn, .inl (cZ, 165, .inl (fun j => b2i (nb j)))), (hd, .inl (cD, 165, .inr (.inr (.inr (.inl v))))), (hq, .inl (cI, 12, .inl (fun j => nI (ln j)))), (qo, .inl (cJ, 1, .inr (.inl oL)))] s.heap.size = A at hD ⊢
  have hA : ∀ q : Nat, s.heap.size ≤ q → A q := fun q h => by rw [← hAe]; exact Or.inr h
  have hS : va_S A s.heap s.heap [] := va_S.rf
  have hl := lv_entry ([.ref h0, .int (nI g), .int (nI w), .ref qo]) (n := 5) (Nat.le_of_ble_eq_true rfl)
  rw [lg_entry_eq]
  generalize (lg_sl ([.ref h0, .int (nI g), .int (nI w), .ref qo]) ++ List.replicate (5 - (lg_sl ([.ref h0, .int (nI g), .int (nI w), .ref qo])).length) Slot.unset).toArray = ls at hl ⊢
  have hl : lv_has ls 5 [(0, .ref h0), (1, .int (nI g)), (2, .int (nI w)), (3, .ref qo)] := hl
  refine lv_aload_n hx hb dL_size_0 rfl (lv_at hl 3 rfl) ?_
  refine lv_iconst (v := nI 0) hx hb dL_size_1 (by decide) ?_
  refine lv_aload_n hx hb dL_size_2 rfl (lv_at hl 0 rfl) ?_
  refine lv_iload_n hx hb dL_size_3 rfl (lv_at hl 1 rfl) ?_
  refine lv_iload_n hx hb dL_size_4 rfl (lv_at hl 2 rfl) ?_
  have hPc : va_P D vwCl (WB h0 hn hd hq cZ cD cI nb v ln go mv) s.heap := hP.sub [0, 1, 2, 3] rfl
  have hDc : va_D A (WB h0 hn hd hq cZ cD cI nb v ln go mv) := hD.sub [0, 1, 2, 3] (by decide) rfl
  have hKc : va_K D vwCl (TY cZ cD cI) s := hK.sub [0, 1, 2] rfl
  refine rdm_calli (va_runV (As := [.int (nI g), .int (nI w)]) (rest := [.int (nI 0), .ref qo]) ⟨hx, hb, hml, hown, hts⟩ (c_X0_size l D h0 hn hd hq cZ cD cI nb v ln go mv hln hl0 g w hg hw) (cwV 2 hts gL_size_X0_size rfl rfl rfl (by decide +kernel) ⟨Nat.le_of_ble_eq_true rfl, Nat.le_of_ble_eq_true rfl⟩) ⟨fun a U g mk q => ⟨q.1, xOK_call q.2.1 g mk a, q.2.2.1, va_K.moved (u := U) (U := U.calling g mk a) (Vm.Alike.refl U.vm) q.2.2.2⟩, va_recv hKc hPc (ci := 1) (q0 := 0) rfl rfl, fun U hU hW => ⟨rfl, xOK_at hX hU hW, by rw [hU]; exact hPc, va_K.moved hW.alike hKc⟩⟩ rfl rfl hl.1 rfl (lv_room (Nat.le_of_ble_eq_true rfl)) dL_size_5 ⟨Nat.le_of_ble_eq_true rfl, Nat.le_of_ble_eq_true rfl⟩) (fun r_1 hr_1 => ?_)
  subst hr_1
  refine lv_i2l hx hb dL_size_8 rfl ?_
  refine kn_last hx hb hK hP hD hS 4 3 rfl rfl (by omega) (by decide) dL_size_9 (fun H locs hP hD hS => ?_)
  have hP : va_P D vwCl ([(h0, .inr (1, [.ref hn, .ref hd, .ref hq, .int (b2i go), .int mv])), (hn, .inl (cZ, 165, .inl (fun j => b2i (nb j)))), (hd, .inl (cD, 165, .inr (.inr (.inr (.inl v))))), (hq, .inl (cI, 12, .inl (fun j => nI (ln j)))), (qo, .inl (cJ, 1, .inr (.inl (up oL 0 (Int32.toInt64 (nI (ln (g * 2 + w))))))))]) H := hP
  have hD : va_D A ([(h0, .inr (1, [.ref hn, .ref hd, .ref hq, .int (b2i go), .int mv])), (hn, .inl (cZ, 165, .inl (fun j => b2i (nb j)))), (hd, .inl (cD, 165, .inr (.inr (.inr (.inl v))))), (hq, .inl (cI, 12, .inl (fun j => nI (ln j)))), (qo, .inl (cJ, 1, .inr (.inl (up oL 0 (Int32.toInt64 (nI (ln (g * 2 + w))))))))]) := hD
  refine lv_goto (tgt := 17) hx hb dL_size_10 (by decide) ?_
  refine lv_iconst (v := nI 0) hx hb dL_size_17 (by decide) ?_
  refine vx_ret ?_
  refine W.widen (k := 2) (n := 12) (Nat.le_of_ble_eq_true rfl) (Nat.le_of_ble_eq_true rfl) ?_
  exact W.iret (v := nI 0) hx hb hr (fun t9 ht9 hW9 => ⟨⟨_, rfl, rfl, by rw [ht9]; exact hP⟩, hS.F ht9⟩) hS.2.2 dL_size_18
set_option maxHeartbeats 4000000 in
set_option maxRecDepth 100000 in
theorem w_size_bad (l : Launch) (D : va_G) (h0 hn hd hq qo : Nat) (cZ cD cI cJ : ClassId) (nb : Nat → Bool) (v : Nat → UInt64) (ln : Nat → Nat) (go : Bool) (mv : Int32) (oL : Nat → Int64) (hln : ∀ j, ln j ≤ 12) (hl0 : l.stackTraces = false) (zz : Nat) (x0 : Int32) (x1 : Int32) (hbad : ¬ (InN 6 x0 ∧ InN 2 x1)) : Met l yL_size wsL_size ({ frames := 8, cells := 2, slots := 12, locals := 124 }) (va_Pc [.ref h0, .int x0, .int x1, .ref qo] (fun U => xOK U ∧ xN U ∧ U.heap.size = zz ∧ va_P D vwCl [(h0, .inr (1, [.ref hn, .ref hd, .ref hq, .int (b2i go), .int mv])), (hn, .inl (cZ, 165, .inl (fun j => b2i (nb j)))), (hd, .inl (cD, 165, .inr (.inr (.inr (.inl v))))), (hq, .inl (cI, 12, .inl (fun j => nI (ln j)))), (qo, .inl (cJ, 1, .inr (.inl oL)))] U.heap ∧ va_K D vwCl (TYL cZ cD cI cJ) U ∧ va_D (fun _ => True) [(h0, .inr (1, [.ref hn, .ref hd, .ref hq, .int (b2i go), .int mv])), (hn, .inl (cZ, 165, .inl (fun j => b2i (nb j)))), (hd, .inl (cD, 165, .inr (.inr (.inr (.inl v))))), (hq, .inl (cI, 12, .inl (fun j => nI (ln j)))), (qo, .inl (cJ, 1, .inr (.inl oL)))])) (wr_Qi (fun r => r = nI 1) (fun H => va_P D vwCl [(h0, .inr (1, [.ref hn, .ref hd, .ref hq, .int (b2i go), .int mv])), (hn, .inl (cZ, 165, .inl (fun j => b2i (nb j)))), (hd, .inl (cD, 165, .inr (.inr (.inr (.inl v))))), (hq, .inl (cI, 12, .inl (fun j => nI (ln j)))), (qo, .inl (cJ, 1, .inr (.inl oL)))] H) (va_A [(h0, .inr (1, [.ref hn, .ref hd, .ref hq, .int (b2i go), .int mv])), (hn, .inl (cZ, 165, .inl (fun j => b2i (nb j)))), (hd, .inl (cD, 165, .inr (.inr (.inr (.inl v))))), (hq, .inl (cI, 12, .inl (fun j => nI (ln j)))), (qo, .inl (cJ, 1, .inr (.inl oL)))] zz)) 2 12 (va_A [(h0, .inr (1, [.ref hn, .ref hd, .ref hq, .int (b2i go), .int mv])), (hn, .inl (cZ, 165, .inl (fun j => b2i (nb j)))), (hd, .inl (cD, 165, .inr (.inr (.inr (.inl v))))), (hq, .inl (cI, 12, .inl (fun j => nI (ln j)))), (qo, .inl (cJ, 1, .inr (.inl oL)))] zz) := by
  refine met_of_vx (vx_ofWH (cc := cL_size) (maxL := 5) (ret := some .int) (hh := [(0, 10, 13, 13)]) (by decide) rfl ?_)
  intro p e s m args below meth c s₁ B hml hv
  obtain ⟨rfl, hX, hN, hsz_, hP, hK, hD0⟩ := hv
  have hx := B.exec
  have hb := B.bytes
  have hr := B.returns
  have hts := atoms_spec (ws := wsL_size) B.pre
  have hown : s.vm.findClass RL = some m.cls := findClass_of_methodNamed B.named
  have hlocks := B.notSynchronized
  have htab := vx_table (x := yL_size) (hh := [(0, 10, 13, 13)]) B (hts _ List.mem_cons_self)
  subst hsz_
  have hD := hD0.self (sz := s.heap.size)
  generalize hAe : va_A [(h0, .inr (1, [.ref hn, .ref hd, .ref hq, .int (b2i go), .int mv])), (hn, .inl (cZ, 165, .inl (fun j => b2i (nb j)))), (hd, .inl (cD, 165, .inr (.inr (.inr (.inl v))))), (hq, .inl (cI, 12, .inl (fun j => nI (ln j)))), (qo, .inl (cJ, 1, .inr (.inl oL)))] s.heap.size = A at hD ⊢
  have hA : ∀ q : Nat, s.heap.size ≤ q → A q := fun q h => by rw [← hAe]; exact Or.inr h
  have hS : va_S A s.heap s.heap [] := va_S.rf
  have hl := lv_entry ([.ref h0, .int x0, .int x1, .ref qo]) (n := 5) (Nat.le_of_ble_eq_true rfl)
  rw [lg_entry_eq]
  generalize (lg_sl ([.ref h0, .int x0, .int x1, .ref qo]) ++ List.replicate (5 - (lg_sl ([.ref h0, .int x0, .int x1, .ref qo])).length) Slot.unset).toArray = ls at hl ⊢
  have hl : lv_has ls 5 [(0, .ref h0), (1, .int x0), (2, .int x1), (3, .ref qo)] := hl
  refine lv_aload_n hx hb dL_size_0 rfl (lv_at hl 3 rfl) ?_
  refine lv_iconst (v := nI 0) hx hb dL_size_1 (by decide) ?_
  refine lv_aload_n hx hb dL_size_2 rfl (lv_at hl 0 rfl) ?_
  refine lv_iload_n hx hb dL_size_3 rfl (lv_at hl 1 rfl) ?_
  refine lv_iload_n hx hb dL_size_4 rfl (lv_at hl 2 rfl) ?_
  have hPc : va_P D vwCl (WB h0 hn hd hq cZ cD cI nb v ln go mv) s.heap := hP.sub [0, 1, 2, 3] rfl
  have hDc : va_D A (WB h0 hn hd hq cZ cD cI nb v ln go mv) := hD.sub [0, 1, 2, 3] (by decide) rfl
  have hKc : va_K D vwCl (TY cZ cD cI) s := hK.sub [0, 1, 2] rfl
  refine kv_never (vx_runV (As := [.int x0, .int x1]) (rest := [.int (nI 0), .ref qo]) ⟨hx, hb, hml, hown, hts⟩ (c_X0_size_bad l D h0 hn hd hq cZ cD cI nb v ln go mv hln hl0 x0 x1 hbad) (cwV 2 hts gL_size_X0_size rfl rfl rfl (by decide +kernel) ⟨Nat.le_of_ble_eq_true rfl, Nat.le_of_ble_eq_true rfl⟩) ⟨fun a U g mk q => ⟨q.1, xOK_call q.2.1 g mk a, q.2.2.1, va_K.moved (u := U) (U := U.calling g mk a) (Vm.Alike.refl U.vm) q.2.2.2⟩, va_recv hKc hPc (ci := 1) (q0 := 0) rfl rfl, fun U hU hW => ⟨rfl, xOK_at hX hU hW, by rw [hU]; exact hPc, va_K.moved hW.alike hKc⟩⟩ rfl rfl hl.1 rfl (lv_room (Nat.le_of_ble_eq_true rfl)) dL_size_5 ⟨Nat.le_of_ble_eq_true rfl, Nat.le_of_ble_eq_true rfl⟩) (fun E9 ce q9 H hE h1 h2 h3 h4 h5 => ?_)
  subst hE
  have hP : va_P D vwCl [(h0, .inr (1, [.ref hn, .ref hd, .ref hq, .int (b2i go), .int mv])), (hn, .inl (cZ, 165, .inl (fun j => b2i (nb j)))), (hd, .inl (cD, 165, .inr (.inr (.inr (.inl v))))), (hq, .inl (cI, 12, .inl (fun j => nI (ln j)))), (qo, .inl (cJ, 1, .inr (.inl oL)))] H := hP.kept (fun k q hk => h2 q.1 (vx_lt hP hk))
  have hS : va_S A s.heap H [] := ⟨h1, fun q hq _ => h2 q hq, fun q hq => absurd hq List.not_mem_nil⟩
  refine vx_catch (E := IAE) (name := IAE) hown [] ⟨0, 10, 13, 13⟩ [] htab (fun z hz => absurd hz List.not_mem_nil) (by decide) (by decide) (hts (.classLink RL 13 IAE) (by decide +kernel)) (xC.word hX.2.2.2.1) h3 h4 h5 ?_
  show W p l e _ s m _ below meth c H [] _ _ _ (F0 m 13 ls [.ref q9])
  refine lv_astore (lv' := [(4, .ref q9), (0, .ref h0), (1, .int x0), (2, .int x1), (3, .ref qo)]) hx hb dL_size_13 hl (by decide) rfl (fun ls hl => ?_)
  refine lv_iconst (v := nI 1) hx hb dL_size_15 (by decide) ?_
  refine vx_ret ?_
  refine W.widen (k := 2) (n := 12) (Nat.le_of_ble_eq_true rfl) (Nat.le_of_ble_eq_true rfl) ?_
  exact W.iret (v := nI 1) hx hb hr (fun t9 ht9 hW9 => ⟨⟨_, rfl, rfl, by rw [ht9]; exact hP⟩, hS.F ht9⟩) hS.2.2 dL_size_16
