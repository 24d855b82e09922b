/-! The reference: its pure words. -/
def wy (u : Bool) (x y : UInt64) : Nat := if u = true then 8 else if oLt (FP.dcmp x y) = true then 1 else if oGt (FP.dcmp x y) = true then 4 else 2
theorem wy_lt (u : Bool) (x y : UInt64) : wy u x y < 16 := by unfold wy; split; omega; split; omega; split <;> omega
def wn (k : Nat) : Nat := match k with | 0 => 1 | 1 => 3 | 2 => 4 | 3 => 6 | 4 => 2 | _ => 13
theorem wn_big {k : Nat} (h : 5 ≤ k) : wn k = 13 := by
  match k, h with
  | k + 5, _ => rfl
theorem wn_lt (k : Nat) : wn k < 16 := by unfold wn; split <;> omega
def isW (k y : Nat) : Bool := decide (¬ (wn k &&& y) = 0)
theorem and_0 : ∀ a, a < 16 → ∀ b, b < 16 → ((nI a &&& nI b) = 0 ↔ (a &&& b) = 0) := by decide +kernel
theorem isW_t {k y : Nat} (hy : y < 16) (h : ¬ (nI (wn k) &&& nI y) = 0) : true = isW k y := by
  have : ¬ (wn k &&& y) = 0 := fun q => h ((and_0 _ (wn_lt k) _ hy).mpr q)
  simp [isW, this]
theorem isW_f {k y : Nat} (hy : y < 16) (h : (nI (wn k) &&& nI y) = 0) : false = isW k y := by
  have : (wn k &&& y) = 0 := (and_0 _ (wn_lt k) _ hy).mp h
  simp [isW, this]
def outs (x : Int32) (n : Nat) : Bool := decide (x < 0) || decide (¬ x ≤ nI n)
def wnM (x : UInt64) : Bool := oGe (FP.dcmp x FP.dconst0) && oLe (FP.dcmp x 4641240890982006784)
def lo (io : Nat → Bool) (sz : Nat → Nat) (t : Nat) : Bool := if sz t = 0 then true else io (12 * t + sz t - 1)
def lw (mv : Nat → UInt64) (sz : Nat → Nat) (t : Nat) : UInt64 := if sz t = 0 then FP.dconst0 else mv (12 * t + sz t - 1)
def ahM (io : Nat → Bool) (mv : Nat → UInt64) (sz : Nat → Nat) (g h : Nat) : Bool := if lo io sz (2 * g) = lo io sz (2 * h) then (if wy (lo io sz (2 * g) || lo io sz (2 * h)) (lw mv sz (2 * g)) (lw mv sz (2 * h)) = 4 then true else if wy (lo io sz (2 * g) || lo io sz (2 * h)) (lw mv sz (2 * g)) (lw mv sz (2 * h)) = 1 then false else decide (g < h)) else lo io sz (2 * h)
def slM (io : Nat → Bool) (mv : Nat → UInt64) (sz : Nat → Nat) (mk : Nat → UInt64) (se : Nat → Bool) (g : Nat) : Nat := if sz (2 * g) = 0 then 0 else if lo io sz (2 * g) = true then 1 else if wy (lo io sz (2 * g) || !se (3 * g)) (lw mv sz (2 * g)) (mk (3 * g)) = 1 then 2 else if wy (lo io sz (2 * g) || !se (3 * g + 1)) (lw mv sz (2 * g)) (mk (3 * g + 1)) = 4 then 3
  else if wy (lo io sz (2 * g) || !se (3 * g)) (lw mv sz (2 * g)) (mk (3 * g)) = 2 ∨ wy (lo io sz (2 * g) || !se (3 * g + 1)) (lw mv sz (2 * g)) (mk (3 * g + 1)) = 2 then 4 else if se (3 * g) = false ∧ se (3 * g + 1) = false then 5 else 6
def o2i : Option Nat → Int32
  | none => -1
  | some q => nI q
def bo (io : Nat → Bool) (mv : Nat → UInt64) (t y : Nat) : Nat → Option Nat
  | 0 => none
  | i + 1 => if io (12 * t + i) = true then bo io mv t y i else match bo io mv t y i with
    | none => some (12 * t + i)
    | some q => if wy false (mv (12 * t + i)) (mv q) = y then some (12 * t + i) else some q
theorem bo_lt {io : Nat → Bool} {mv : Nat → UInt64} {t y : Nat} : ∀ {i q : Nat}, bo io mv t y i = some q → q < 12 * t + i
  | 0, q, h => by simp [bo] at h
  | i + 1, q, h => by
    unfold bo at h
    split at h
    · exact Nat.lt_succ_of_lt (bo_lt h)
    · cases hb : bo io mv t y i with
      | none => rw [hb] at h; simp at h; omega
      | some r =>
        rw [hb] at h
        have := bo_lt hb
        simp only at h
        split at h <;> (simp at h; omega)
def thr (b1 b2 b3 : Bool) : Nat := if b1 = true then 1 else if b2 = true then 2 else if b3 = true then 3 else 0
set_option maxHeartbeats 4000000 in
set_option maxRecDepth 100000 in
theorem c_X1_way (l : Launch) (u : Bool) (x : UInt64) (y : UInt64) : Met l yX1_way wsX1_way ({ frames := 0, cells := 0, slots := 0, locals := 0 }) (va_Pc [.int (b2i u), .double x, .double y] (fun _ => True)) (rd_Qi (fun r => r = nI (wy u x y))) 0 0 (fun _ => False) := by
  refine Met.ofW (cc := cX1_way) (maxL := 5) (ret := some .int) (by decide) rfl ?_
  intro p e s m args below meth c s₁ B hml hv
  obtain ⟨rfl, -⟩ := hv
  have hx := B.exec
  have hb := B.bytes
  have hr := B.returns
  have hts := atoms_spec (ws := wsX1_way) B.pre
  have hown : s.vm.findClass RX1 = some m.cls := findClass_of_methodNamed B.named
  have hlocks := B.notSynchronized
  have hl := lv_entry ([.int (b2i u), .double x, .double y]) (n := 5) (Nat.le_of_ble_eq_true rfl)
  rw [lg_entry_eq]
  generalize (lg_sl ([.int (b2i u), .double x, .double y]) ++ List.replicate (5 - (lg_sl ([.int (b2i u), .double x, .double y])).length) Slot.unset).toArray = ls at hl ⊢
  have hl : lv_has ls 5 [(0, .int (b2i u)), (1, .double x), (3, .double y)] := hl
  refine lv_iload_n hx hb dX1_way_0 rfl (lv_at hl 0 rfl) ?_
  refine kb_eq (tgt := 9) hx hb dX1_way_1 (by decide) (fun c_1 => ?_) (fun c_1 => ?_)
  · refine lv_dload_n hx hb dX1_way_9 rfl (lv_at hl 1 rfl) ?_
    refine lv_dload_n hx hb dX1_way_10 rfl (lv_at hl 2 rfl) ?_
    refine kc_dg_ge (tgt := 19) hx hb dX1_way_11 dX1_way_12 (by decide) (fun c_2 => ?_) (fun c_2 => ?_)
    · refine lv_dload_n hx hb dX1_way_19 rfl (lv_at hl 1 rfl) ?_
      refine lv_dload_n hx hb dX1_way_20 rfl (lv_at hl 2 rfl) ?_
      refine kc_dl_le (tgt := 29) hx hb dX1_way_21 dX1_way_22 (by decide) (fun c_3 => ?_) (fun c_3 => ?_)
      · refine lv_iconst (v := nI 2) hx hb dX1_way_29 (by decide) ?_
        exact W.iret (v := nI 2) hx hb hr (fun t9 ht9 hW9 => ⟨⟨_, rfl, congrArg nI (show 2 = (wy u x y) from by first | rfl | (simp [wy, c_1, c_2, c_3]; done) | (simp only [Nat.add_zero] at c_1 c_2 c_3; simp [wy, c_1, c_2, c_3]; done))⟩, ht9⟩) (fun q hq => absurd hq List.not_mem_nil) dX1_way_30
      · refine lv_iconst (v := nI 4) hx hb dX1_way_25 (by decide) ?_
        refine lv_goto (tgt := 30) hx hb dX1_way_26 (by decide) ?_
        exact W.iret (v := nI 4) hx hb hr (fun t9 ht9 hW9 => ⟨⟨_, rfl, congrArg nI (show 4 = (wy u x y) from by first | rfl | (simp [wy, c_1, c_2, c_3]; done) | (simp only [Nat.add_zero] at c_1 c_2 c_3; simp [wy, c_1, c_2, c_3]; done))⟩, ht9⟩) (fun q hq => absurd hq List.not_mem_nil) dX1_way_30
    · refine lv_iconst (v := nI 1) hx hb dX1_way_15 (by decide) ?_
      refine lv_goto (tgt := 30) hx hb dX1_way_16 (by decide) ?_
      exact W.iret (v := nI 1) hx hb hr (fun t9 ht9 hW9 => ⟨⟨_, rfl, congrArg nI (show 1 = (wy u x y) from by first | rfl | (simp [wy, c_1, c_2]; done) | (simp only [Nat.add_zero] at c_1 c_2; simp [wy, c_1, c_2]; done))⟩, ht9⟩) (fun q hq => absurd hq List.not_mem_nil) dX1_way_30
  · refine lv_bipush (v := nI 8) hx hb dX1_way_4 (by decide) ?_
    refine lv_goto (tgt := 30) hx hb dX1_way_6 (by decide) ?_
    exact W.iret (v := nI 8) hx hb hr (fun t9 ht9 hW9 => ⟨⟨_, rfl, congrArg nI (show 8 = (wy u x y) from by first | rfl | (simp [wy, c_1]; done) | (simp only [Nat.add_zero] at c_1; simp [wy, c_1]; done))⟩, ht9⟩) (fun q hq => absurd hq List.not_mem_nil) dX1_way_30
set_option maxHeartbeats 4000000 in
set_option maxRecDepth 100000 in
theorem c_X1_ways (l : Launch) (k : Nat) (hk : k < 2147483648) : Met l yX1_ways wsX1_ways ({ frames := 0, cells := 0, slots := 0, locals := 0 }) (va_Pc [.int (nI k)] (fun _ => True)) (rd_Qi (fun r => r = nI (wn k))) 0 0 (fun _ => False) := by
  refine Met.ofW (cc := cX1_ways) (maxL := 1) (ret := some .int) (by decide) rfl ?_
  intro p e s m args below meth c s₁ B hml hv
  obtain ⟨rfl, -⟩ := hv
  have hx := B.exec
  have hb := B.bytes
  have hr := B.returns
  have hts := atoms_spec (ws := wsX1_ways) B.pre
  have hown : s.vm.findClass RX1 = some m.cls := findClass_of_methodNamed B.named
  have hlocks := B.notSynchronized
  have hl := lv_entry ([.int (nI k)]) (n := 1) (Nat.le_of_ble_eq_true rfl)
  rw [lg_entry_eq]
  generalize (lg_sl ([.int (nI k)]) ++ List.replicate (1 - (lg_sl ([.int (nI k)])).length) Slot.unset).toArray = ls at hl ⊢
  have hl : lv_has ls 1 [(0, .int (nI k))] := hl
  refine lv_iload_n hx hb dX1_ways_0 rfl (lv_at hl 0 rfl) ?_
  rcases (show k = 0 ∨ k = 1 ∨ k = 2 ∨ k = 3 ∨ k = 4 ∨ 5 ≤ k by omega) with rfl | rfl | rfl | rfl | rfl | hk5
  · refine lv_tableIn (tgt := 36) hx hb dX1_ways_1 (by decide) (by decide) rfl (by decide) ?_
    refine lv_iconst (v := nI 1) hx hb dX1_ways_36 (by decide) ?_
    exact W.iret (v := nI 1) hx hb hr (fun t9 ht9 hW9 => ⟨⟨_, rfl, rfl⟩, ht9⟩) (fun q hq => absurd hq List.not_mem_nil) dX1_ways_37
  · refine lv_tableIn (tgt := 38) hx hb dX1_ways_1 (by decide) (by decide) rfl (by decide) ?_
    refine lv_iconst (v := nI 3) hx hb dX1_ways_38 (by decide) ?_
    exact W.iret (v := nI 3) hx hb hr (fun t9 ht9 hW9 => ⟨⟨_, rfl, rfl⟩, ht9⟩) (fun q hq => absurd hq List.not_mem_nil) dX1_ways_39
  · refine lv_tableIn (tgt := 40) hx hb dX1_ways_1 (by decide) (by decide) rfl (by decide) ?_
    refine lv_iconst (v := nI 4) hx hb dX1_ways_40 (by decide) ?_
    exact W.iret (v := nI 4) hx hb hr (fun t9 ht9 hW9 => ⟨⟨_, rfl, rfl⟩, ht9⟩) (fun q hq => absurd hq List.not_mem_nil) dX1_ways_41
  · refine lv_tableIn (tgt := 42) hx hb dX1_ways_1 (by decide) (by decide) rfl (by decide) ?_
    refine lv_bipush (v := nI 6) hx hb dX1_ways_42 (by decide) ?_
    exact W.iret (v := nI 6) hx hb hr (fun t9 ht9 hW9 => ⟨⟨_, rfl, rfl⟩, ht9⟩) (fun q hq => absurd hq List.not_mem_nil) dX1_ways_44
  · refine lv_tableIn (tgt := 45) hx hb dX1_ways_1 (by decide) (by decide) rfl (by decide) ?_
    refine lv_iconst (v := nI 2) hx hb dX1_ways_45 (by decide) ?_
    exact W.iret (v := nI 2) hx hb hr (fun t9 ht9 hW9 => ⟨⟨_, rfl, rfl⟩, ht9⟩) (fun q hq => absurd hq List.not_mem_nil) dX1_ways_46
  · refine lv_tableOut (tgt := 47) hx hb dX1_ways_1 (Or.inr (by rw [nI_toInt (by omega)]; omega)) (by decide) ?_
    refine lv_bipush (v := nI 13) hx hb dX1_ways_47 (by decide) ?_
    exact W.iret (v := nI 13) hx hb hr (fun t9 ht9 hW9 => ⟨⟨_, rfl, congrArg nI (wn_big hk5).symm⟩, ht9⟩) (fun q hq => absurd hq List.not_mem_nil) dX1_ways_49
set_option maxHeartbeats 4000000 in
set_option maxRecDepth 100000 in
theorem c_X1_is (l : Launch) (k : Nat) (y : Nat) (hk : k < 2147483648) (hy : y < 16) : Met l yX1_is wsX1_is ({ frames := 1, cells := 0, slots := 0, locals := 20 }) (va_Pc [.int (nI k), .int (nI y)] (fun _ => True)) (rd_Qi (fun r => r = b2i (isW k y))) 0 0 (fun _ => False) := by
  refine Met.ofW (cc := cX1_is) (maxL := 2) (ret := some .boolean) (by decide) rfl ?_
  intro p e s m args below meth c s₁ B hml hv
  obtain ⟨rfl, -⟩ := hv
  have hx := B.exec
  have hb := B.bytes
  have hr := B.returns
  have hts := atoms_spec (ws := wsX1_is) B.pre
  have hown : s.vm.findClass RX1 = some m.cls := findClass_of_methodNamed B.named
  have hlocks := B.notSynchronized
  have hl := lv_entry ([.int (nI k), .int (nI y)]) (n := 2) (Nat.le_of_ble_eq_true rfl)
  rw [lg_entry_eq]
  generalize (lg_sl ([.int (nI k), .int (nI y)]) ++ List.replicate (2 - (lg_sl ([.int (nI k), .int (nI y)])).length) Slot.unset).toArray = ls at hl ⊢
  have hl : lv_has ls 2 [(0, .int (nI k)), (1, .int (nI y))] := hl
  refine lv_iload_n hx hb dX1_is_0 rfl (lv_at hl 0 rfl) ?_
  refine rd_calli (va_runS (As := [.int (nI k)]) (rest := []) ⟨hx, hb, hml, hown, hts⟩ (c_X1_ways l k (by omega)) (va_cwS 1 hts gX1_is_X1_ways rfl rfl rfl (by decide +kernel) ⟨Nat.le_of_ble_eq_true rfl, Nat.le_of_ble_eq_true rfl⟩) ⟨fun a U g mk q => q, fun U hU hW => ⟨rfl, trivial⟩⟩ rfl rfl hl.1 rfl (lv_room (Nat.le_of_ble_eq_true rfl)) dX1_is_1 ⟨Nat.le_of_ble_eq_true rfl, Nat.le_of_ble_eq_true rfl⟩) (fun r_1 hr_1 => ?_)
  subst hr_1
  refine lv_iload_n hx hb dX1_is_4 rfl (lv_at hl 1 rfl) ?_
  refine lv_iand hx hb dX1_is_5 ?_
  refine lv_if_eq (tgt := 13) hx hb dX1_is_6 (by decide) (fun c_2 => ?_) (fun c_2 => ?_)
  · refine lv_iconst (v := nI 0) hx hb dX1_is_13 (by decide) ?_
    refine kt_i (y := b2i false) rfl ?_
    exact W.zret (v := b2i false) hx hb hr (b2i_nar _) (fun t9 ht9 hW9 => ⟨⟨_, rfl, congrArg b2i (isW_f hy c_2)⟩, ht9⟩) (fun q hq => absurd hq List.not_mem_nil) dX1_is_14
  · refine lv_iconst (v := nI 1) hx hb dX1_is_9 (by decide) ?_
    refine lv_goto (tgt := 14) hx hb dX1_is_10 (by decide) ?_
    refine kt_i (y := b2i true) rfl ?_
    exact W.zret (v := b2i true) hx hb hr (b2i_nar _) (fun t9 ht9 hW9 => ⟨⟨_, rfl, congrArg b2i (isW_t hy c_2)⟩, ht9⟩) (fun q hq => absurd hq List.not_mem_nil) dX1_is_14
set_option maxHeartbeats 4000000 in
set_option maxRecDepth 100000 in
theorem c_X1_outside (l : Launch) (x : Int32) (n : Nat) : Met l yX1_outside wsX1_outside ({ frames := 0, cells := 0, slots := 0, locals := 0 }) (va_Pc [.int x, .int (nI n)] (fun _ => True)) (rd_Qi (fun r => r = b2i (outs x n))) 0 0 (fun _ => False) := by
  refine Met.ofW (cc := cX1_outside) (maxL := 2) (ret := some .boolean) (by decide) rfl ?_
  intro p e s m args below meth c s₁ B hml hv
  obtain ⟨rfl, -⟩ := hv
  have hx := B.exec
  have hb := B.bytes
  have hr := B.returns
  have hts := atoms_spec (ws := wsX1_outside) B.pre
  have hown : s.vm.findClass RX1 = some m.cls := findClass_of_methodNamed B.named
  have hlocks := B.notSynchronized
  have hl := lv_entry ([.int x, .int (nI n)]) (n := 2) (Nat.le_of_ble_eq_true rfl)
  rw [lg_entry_eq]
  generalize (lg_sl ([.int x, .int (nI n)]) ++ List.replicate (2 - (lg_sl ([.int x, .int (nI n)])).length) Slot.unset).toArray = ls at hl ⊢
  have hl : lv_has ls 2 [(0, .int x), (1, .int (nI n))] := hl
  refine lv_iload_n hx hb dX1_outside_0 rfl (lv_at hl 0 rfl) ?_
  refine lv_if_lt (tgt := 9) hx hb dX1_outside_1 (by decide) (fun c_1 => ?_) (fun c_1 => ?_)
  · refine lv_iconst (v := nI 1) hx hb dX1_outside_9 (by decide) ?_
    refine lv_goto (tgt := 14) hx hb dX1_outside_10 (by decide) ?_
    refine kt_i (y := b2i true) rfl ?_
    exact W.zret (v := b2i true) hx hb hr (b2i_nar _) (fun t9 ht9 hW9 => ⟨⟨_, rfl, congrArg b2i (show true = outs x n from by first | rfl | (simp [outs, c_1]; done) | (simp only [Nat.add_zero] at c_1; simp [outs, c_1]; done))⟩, ht9⟩) (fun q hq => absurd hq List.not_mem_nil) dX1_outside_14
  · refine lv_iload_n hx hb dX1_outside_4 rfl (lv_at hl 0 rfl) ?_
    refine lv_iload_n hx hb dX1_outside_5 rfl (lv_at hl 1 rfl) ?_
    refine lv_icmp_le (tgt := 13) hx hb dX1_outside_6 (by decide) (fun c_2 => ?_) (fun c_2 => ?_)
    · refine lv_iconst (v := nI 0) hx hb dX1_outside_13 (by decide) ?_
      refine kt_i (y := b2i false) rfl ?_
      exact W.zret (v := b2i false) hx hb hr (b2i_nar _) (fun t9 ht9 hW9 => ⟨⟨_, rfl, congrArg b2i (show false = outs x n from by first | rfl | (simp [outs, c_1, c_2]; done) | (simp only [Nat.add_zero] at c_1 c_2; simp [outs, c_1, c_2]; done))⟩, ht9⟩) (fun q hq => absurd hq List.not_mem_nil) dX1_outside_14
    · refine lv_iconst (v := nI 1) hx hb dX1_outside_9 (by decide) ?_
      refine lv_goto (tgt := 14) hx hb dX1_outside_10 (by decide) ?_
      refine kt_i (y := b2i true) rfl ?_
      exact W.zret (v := b2i true) hx hb hr (b2i_nar _) (fun t9 ht9 hW9 => ⟨⟨_, rfl, congrArg b2i (show true = outs x n from by first | rfl | (simp [outs, c_1, c_2]; done) | (simp only [Nat.add_zero] at c_1 c_2; simp [outs, c_1, c_2]; done))⟩, ht9⟩) (fun q hq => absurd hq List.not_mem_nil) dX1_outside_14
set_option maxHeartbeats 4000000 in
set_option maxRecDepth 100000 in
theorem c_X1_inside (l : Launch) (a : Nat) (n : Nat) (ha : a ≤ n) (hn : n < 2147483648) : Met l yX1_outside wsX1_outside ({ frames := 0, cells := 0, slots := 0, locals := 0 }) (va_Pc [.int (nI a), .int (nI n)] (fun _ => True)) (rd_Qi (fun r => r = b2i false)) 0 0 (fun _ => False) := by
  refine Met.ofW (cc := cX1_outside) (maxL := 2) (ret := some .boolean) (by decide) rfl ?_
  intro p e s m args below meth c s₁ B hml hv
  obtain ⟨rfl, -⟩ := hv
  have hx := B.exec
  have hb := B.bytes
  have hr := B.returns
  have hts := atoms_spec (ws := wsX1_outside) B.pre
  have hown : s.vm.findClass RX1 = some m.cls := findClass_of_methodNamed B.named
  have hlocks := B.notSynchronized
  have hl := lv_entry ([.int (nI a), .int (nI n)]) (n := 2) (Nat.le_of_ble_eq_true rfl)
  rw [lg_entry_eq]
  generalize (lg_sl ([.int (nI a), .int (nI n)]) ++ List.replicate (2 - (lg_sl ([.int (nI a), .int (nI n)])).length) Slot.unset).toArray = ls at hl ⊢
  have hl : lv_has ls 2 [(0, .int (nI a)), (1, .int (nI n))] := hl
  refine lv_iload_n hx hb dX1_outside_0 rfl (lv_at hl 0 rfl) ?_
  refine kn_iflt (tgt := 9) hx hb (by omega) dX1_outside_1 (by decide) ?_
  refine lv_iload_n hx hb dX1_outside_4 rfl (lv_at hl 0 rfl) ?_
  refine lv_iload_n hx hb dX1_outside_5 rfl (lv_at hl 1 rfl) ?_
  refine kn_icmp_le (tgt := 13) hx hb (by omega) (by omega) dX1_outside_6 (by decide) (fun c_x => ?_) (fun h => absurd h (by omega))
  refine lv_iconst (v := nI 0) hx hb dX1_outside_13 (by decide) ?_
  refine kt_i (y := b2i false) rfl ?_
  exact W.zret (v := b2i false) hx hb hr (b2i_nar _) (fun t9 ht9 hW9 => ⟨⟨_, rfl, rfl⟩, ht9⟩) (fun q hq => absurd hq List.not_mem_nil) dX1_outside_14
set_option maxHeartbeats 4000000 in
set_option maxRecDepth 100000 in
theorem c_X1_isLevel (l : Launch) (x : UInt64) : Met l yX1_isLevel wsX1_isLevel ({ frames := 0, cells := 0, slots := 0, locals := 0 }) (va_Pc [.double x] (fun _ => True)) (rd_Qi (fun r => r = b2i (lvl x))) 0 0 (fun _ => False) := by
  refine Met.ofW (cc := cX1_isLevel) (maxL := 2) (ret := some .boolean) (by decide) rfl ?_
  intro p e s m args below meth c s₁ B hml hv
  obtain ⟨rfl, -⟩ := hv
  have hx := B.exec
  have hb := B.bytes
  have hr := B.returns
  have hts := atoms_spec (ws := wsX1_isLevel) B.pre
  have hown : s.vm.findClass RX1 = some m.cls := findClass_of_methodNamed B.named
  have hlocks := B.notSynchronized
  have hl := lv_entry ([.double x]) (n := 2) (Nat.le_of_ble_eq_true rfl)
  rw [lg_entry_eq]
  generalize (lg_sl ([.double x]) ++ List.replicate (2 - (lg_sl ([.double x])).length) Slot.unset).toArray = ls at hl ⊢
  have hl : lv_has ls 2 [(0, .double x)] := hl
  have hc_37 := hts (.constantDouble RX1 37 13875379345695965184) (by decide +kernel)
  have hc_39 := hts (.constantDouble RX1 39 4652007308841189376) (by decide +kernel)
  refine lv_dload_n hx hb dX1_isLevel_0 rfl (lv_at hl 0 rfl) ?_
  refine lv_ldc2d hx hb hown hc_37 dX1_isLevel_1 ?_
  refine kc_dl_lt (tgt := 20) hx hb dX1_isLevel_4 dX1_isLevel_5 (by decide) (fun c_1 => ?_) (fun c_1 => ?_)
  · refine lv_iconst (v := nI 0) hx hb dX1_isLevel_20 (by decide) ?_
    refine kt_i (y := b2i false) rfl ?_
    exact W.zret (v := b2i false) hx hb hr (b2i_nar _) (fun t9 ht9 hW9 => ⟨⟨_, rfl, congrArg b2i (show false = lvl x from by first | rfl | (simp [lvl, c_1]; done) | (simp only [Nat.add_zero] at c_1; simp [lvl, c_1]; done))⟩, ht9⟩) (fun q hq => absurd hq List.not_mem_nil) dX1_isLevel_21
  · refine lv_dload_n hx hb dX1_isLevel_8 rfl (lv_at hl 0 rfl) ?_
    refine lv_ldc2d hx hb hown hc_39 dX1_isLevel_9 ?_
    refine kc_dg_gt (tgt := 20) hx hb dX1_isLevel_12 dX1_isLevel_13 (by decide) (fun c_2 => ?_) (fun c_2 => ?_)
    · refine lv_iconst (v := nI 0) hx hb dX1_isLevel_20 (by decide) ?_
      refine kt_i (y := b2i false) rfl ?_
      exact W.zret (v := b2i false) hx hb hr (b2i_nar _) (fun t9 ht9 hW9 => ⟨⟨_, rfl, congrArg b2i (show false = lvl x from by first | rfl | (simp [lvl, c_1, c_2]; done) | (simp only [Nat.add_zero] at c_1 c_2; simp [lvl, c_1, c_2]; done))⟩, ht9⟩) (fun q hq => absurd hq List.not_mem_nil) dX1_isLevel_21
    · refine lv_iconst (v := nI 1) hx hb dX1_isLevel_16 (by decide) ?_
      refine lv_goto (tgt := 21) hx hb dX1_isLevel_17 (by decide) ?_
      refine kt_i (y := b2i true) rfl ?_
      exact W.zret (v := b2i true) hx hb hr (b2i_nar _) (fun t9 ht9 hW9 => ⟨⟨_, rfl, congrArg b2i (show true = lvl x from by first | rfl | (simp [lvl, c_1, c_2]; done) | (simp only [Nat.add_zero] at c_1 c_2; simp [lvl, c_1, c_2]; done))⟩, ht9⟩) (fun q hq => absurd hq List.not_mem_nil) dX1_isLevel_21
set_option maxHeartbeats 4000000 in
set_option maxRecDepth 100000 in
theorem c_X1_isWind (l : Launch) (x : UInt64) : Met l yX1_isWind wsX1_isWind ({ frames := 0, cells := 0, slots := 0, locals := 0 }) (va_Pc [.double x] (fun _ => True)) (rd_Qi (fun r => r = b2i (wnM x))) 0 0 (fun _ => False) := by
  refine Met.ofW (cc := cX1_isWind) (maxL := 2) (ret := some .boolean) (by decide) rfl ?_
  intro p e s m args below meth c s₁ B hml hv
  obtain ⟨rfl, -⟩ := hv
  have hx := B.exec
  have hb := B.bytes
  have hr := B.returns
  have hts := atoms_spec (ws := wsX1_isWind) B.pre
  have hown : s.vm.findClass RX1 = some m.cls := findClass_of_methodNamed B.named
  have hlocks := B.notSynchronized
  have hl := lv_entry ([.double x]) (n := 2) (Nat.le_of_ble_eq_true rfl)
  rw [lg_entry_eq]
  generalize (lg_sl ([.double x]) ++ List.replicate (2 - (lg_sl ([.double x])).length) Slot.unset).toArray = ls at hl ⊢
  have hl : lv_has ls 2 [(0, .double x)] := hl
  have hc_41 := hts (.constantDouble RX1 41 4641240890982006784) (by decide +kernel)
  refine lv_dload_n hx hb dX1_isWind_0 rfl (lv_at hl 0 rfl) ?_
  refine lv_dconst0 hx hb dX1_isWind_1 ?_
  refine kc_dl_lt (tgt := 18) hx hb dX1_isWind_2 dX1_isWind_3 (by decide) (fun c_1 => ?_) (fun c_1 => ?_)
  · refine lv_iconst (v := nI 0) hx hb dX1_isWind_18 (by decide) ?_
    refine kt_i (y := b2i false) rfl ?_
    exact W.zret (v := b2i false) hx hb hr (b2i_nar _) (fun t9 ht9 hW9 => ⟨⟨_, rfl, congrArg b2i (show false = wnM x from by first | rfl | (simp [wnM, c_1]; done) | (simp only [Nat.add_zero] at c_1; simp [wnM, c_1]; done))⟩, ht9⟩) (fun q hq => absurd hq List.not_mem_nil) dX1_isWind_19
  · refine lv_dload_n hx hb dX1_isWind_6 rfl (lv_at hl 0 rfl) ?_
    refine lv_ldc2d hx hb hown hc_41 dX1_isWind_7 ?_
    refine kc_dg_gt (tgt := 18) hx hb dX1_isWind_10 dX1_isWind_11 (by decide) (fun c_2 => ?_) (fun c_2 => ?_)
    · refine lv_iconst (v := nI 0) hx hb dX1_isWind_18 (by decide) ?_
      refine kt_i (y := b2i false) rfl ?_
      exact W.zret (v := b2i false) hx hb hr (b2i_nar _) (fun t9 ht9 hW9 => ⟨⟨_, rfl, congrArg b2i (show false = wnM x from by first | rfl | (simp [wnM, c_1, c_2]; done) | (simp only [Nat.add_zero] at c_1 c_2; simp [wnM, c_1, c_2]; done))⟩, ht9⟩) (fun q hq => absurd hq List.not_mem_nil) dX1_isWind_19
    · refine lv_iconst (v := nI 1) hx hb dX1_isWind_14 (by decide) ?_
      refine lv_goto (tgt := 19) hx hb dX1_isWind_15 (by decide) ?_
      refine kt_i (y := b2i true) rfl ?_
      exact W.zret (v := b2i true) hx hb hr (b2i_nar _) (fun t9 ht9 hW9 => ⟨⟨_, rfl, congrArg b2i (show true = wnM x from by first | rfl | (simp [wnM, c_1, c_2]; done) | (simp only [Nat.add_zero] at c_1 c_2; simp [wnM, c_1, c_2]; done))⟩, ht9⟩) (fun q hq => absurd hq List.not_mem_nil) dX1_isWind_19
set_option maxHeartbeats 4000000 in
set_option maxRecDepth 100000 in
theorem c_X1_latest (l : Launch) (D : va_G) (k0 kv ko ks km kt kp kb : Nat) (cZ cD cI : ClassId) (th : Nat) (mv : Nat → UInt64) (io : Nat → Bool) (sz : Nat → Nat) (mk : Nat → UInt64) (se : Nat → Bool) (pv : Nat → UInt64) (pd : Nat → Bool) (op : Bool) (mw : Int32) (hsz : ∀ j, sz j ≤ 12) (t : Nat) (ht : t < 12) (hne : sz t ≠ 0) : Met l yX1_latest wsX1_latest ({ frames := 0, cells := 0, slots := 0, locals := 0 }) (va_Pc [.ref k0, .int (nI t)] (fun U => va_P D vwCl (WM k0 kv ko ks km kt kp kb cZ cD cI th mv io sz mk se pv pd op mw) U.heap ∧ va_K D vwCl (TY cZ cD cI) U)) (rd_Qi (fun r => r = nI (12 * t + sz t - 1))) 0 0 (fun _ => False) := by
  refine Met.ofW (cc := cX1_latest) (maxL := 2) (ret := some .int) (by decide) rfl ?_
  intro p e s m args below meth c s₁ B hml hv
  obtain ⟨rfl, hP, hK⟩ := hv
  have hx := B.exec
  have hb := B.bytes
  have hr := B.returns
  have hts := atoms_spec (ws := wsX1_latest) B.pre
  have hown : s.vm.findClass RX1 = some m.cls := findClass_of_methodNamed B.named
  have hlocks := B.notSynchronized
  have hl := lv_entry ([.ref k0, .int (nI t)]) (n := 2) (Nat.le_of_ble_eq_true rfl)
  rw [lg_entry_eq]
  generalize (lg_sl ([.ref k0, .int (nI t)]) ++ List.replicate (2 - (lg_sl ([.ref k0, .int (nI t)])).length) Slot.unset).toArray = ls at hl ⊢
  have hl : lv_has ls 2 [(0, .ref k0), (1, .int (nI t))] := hl
  have hinRX1 : ∀ w ∈ wsX10, w ∈ wsX1_latest := by decide +kernel
  have hf_17 := hts (.fieldLink RX1 17 "HarbourBoardModel" "sizes" "[I") (by decide +kernel)
  have h1 := hsz t
  refine lv_aload_n hx hb dX1_latest_0 rfl (lv_at hl 0 rfl) ?_
  refine va_get (D := D) (ci := 2) (v := .ref ks) (C := RX1) (T := TX1) (N := 10) hx hb hts hinRX1 hown hK hP 0 rfl rfl 3 (by decide) hf_17 (fun _ h9 => h9) rfl dX1_latest_1 ?_
  refine lv_iload_n hx hb dX1_latest_4 rfl (lv_at hl 1 rfl) ?_
  refine kn_iald hx hb hK hP 3 2 rfl rfl (by omega) (by decide) dX1_latest_5 ?_
  refine kn_ne (tgt := 13) hx hb (by omega) dX1_latest_6 (by decide) (fun c_x => ?_) (fun h => absurd h hne)
  refine lv_bipush (v := nI 12) hx hb dX1_latest_13 (by decide) ?_
  refine lv_iload_n hx hb dX1_latest_15 rfl (lv_at hl 1 rfl) ?_
  refine kn_imul hx hb dX1_latest_16 ?_
  refine lv_aload_n hx hb dX1_latest_17 rfl (lv_at hl 0 rfl) ?_
  refine va_get (D := D) (ci := 2) (v := .ref ks) (C := RX1) (T := TX1) (N := 10) hx hb hts hinRX1 hown hK hP 0 rfl rfl 3 (by decide) hf_17 (fun _ h9 => h9) rfl dX1_latest_18 ?_
  refine lv_iload_n hx hb dX1_latest_21 rfl (lv_at hl 1 rfl) ?_
  refine kn_iald hx hb hK hP 3 2 rfl rfl (by omega) (by decide) dX1_latest_22 ?_
  refine kn_iadd hx hb dX1_latest_23 ?_
  refine lv_iconst (v := nI 1) hx hb dX1_latest_24 (by decide) ?_
  refine kn_isub hx hb (by omega) dX1_latest_25 ?_
  exact W.iret (v := nI (((12 * t) + (sz t)) - 1)) hx hb hr (fun t9 ht9 hW9 => ⟨⟨_, rfl, rfl⟩, ht9⟩) (fun q hq => absurd hq List.not_mem_nil) dX1_latest_26
set_option maxHeartbeats 4000000 in
set_option maxRecDepth 100000 in
theorem c_X1_latestOut (l : Launch) (D : va_G) (k0 kv ko ks km kt kp kb : Nat) (cZ cD cI : ClassId) (th : Nat) (mv : Nat → UInt64) (io : Nat → Bool) (sz : Nat → Nat) (mk : Nat → UInt64) (se : Nat → Bool) (pv : Nat → UInt64) (pd : Nat → Bool) (op : Bool) (mw : Int32) (hsz : ∀ j, sz j ≤ 12) (t : Nat) (ht : t < 12) : Met l yX1_latestOut wsX1_latestOut ({ frames := 1, cells := 0, slots := 0, locals := 21 }) (va_Pc [.ref k0, .int (nI t)] (fun U => va_P D vwCl (WM k0 kv ko ks km kt kp kb cZ cD cI th mv io sz mk se pv pd op mw) U.heap ∧ va_K D vwCl (TY cZ cD cI) U)) (rd_Qi (fun r => r = b2i (lo io sz t))) 0 0 (fun _ => False) := by
  refine Met.ofW (cc := cX1_latestOut) (maxL := 2) (ret := some .boolean) (by decide) rfl ?_
  intro p e s m args below meth c s₁ B hml hv
  obtain ⟨rfl, hP, hK⟩ := hv
  have hx := B.exec
  have hb := B.bytes
  have hr := B.returns
  have hts := atoms_spec (ws := wsX1_latestOut) B.pre
  have hown : s.vm.findClass RX1 = some m.cls := findClass_of_methodNamed B.named
  have hlocks := B.notSynchronized
  have hl := lv_entry ([.ref k0, .int (nI t)]) (n := 2) (Nat.le_of_ble_eq_true rfl)
  rw [lg_entry_eq]
  generalize (lg_sl ([.ref k0, .int (nI t)]) ++ List.replicate (2 - (lg_sl ([.ref k0, .int (nI t)])).length) Slot.unset).toArray = ls at hl ⊢
  have hl : lv_has ls 2 [(0, .ref k0), (1, .int (nI t))] := hl
  have hinRX1 : ∀ w ∈ wsX10, w ∈ wsX1_latestOut := by decide +kernel
  have hf_17 := hts (.fieldLink RX1 17 "HarbourBoardModel" "sizes" "[I") (by decide +kernel)
  have hf_13 := hts (.fieldLink RX1 13 "HarbourBoardModel" "isOut" "[Z") (by decide +kernel)
  have h1 := hsz t
  refine lv_aload_n hx hb dX1_latestOut_0 rfl (lv_at hl 0 rfl) ?_
  refine va_get (D := D) (ci := 2) (v := .ref ks) (C := RX1) (T := TX1) (N := 10) hx hb hts hinRX1 hown hK hP 0 rfl rfl 3 (by decide) hf_17 (fun _ h9 => h9) rfl dX1_latestOut_1 ?_
  refine lv_iload_n hx hb dX1_latestOut_4 rfl (lv_at hl 1 rfl) ?_
  refine kn_iald hx hb hK hP 3 2 rfl rfl (by omega) (by decide) dX1_latestOut_5 ?_
  refine kn_eq (tgt := 22) hx hb (by omega) dX1_latestOut_6 (by decide) (fun c_2 => ?_) (fun c_2 => ?_)
  · refine lv_iconst (v := nI 1) hx hb dX1_latestOut_22 (by decide) ?_
    refine lv_goto (tgt := 27) hx hb dX1_latestOut_23 (by decide) ?_
    refine kt_i (y := b2i true) rfl ?_
    exact W.zret (v := b2i true) hx hb hr (b2i_nar _) (fun t9 ht9 hW9 => ⟨⟨_, rfl, congrArg b2i (show true = lo io sz t from by first | rfl | (simp [lo, c_2]; done) | (simp only [Nat.add_zero] at c_2; simp [lo, c_2]; done))⟩, ht9⟩) (fun q hq => absurd hq List.not_mem_nil) dX1_latestOut_27
  · refine lv_aload_n hx hb dX1_latestOut_9 rfl (lv_at hl 0 rfl) ?_
    refine va_get (D := D) (ci := 2) (v := .ref ko) (C := RX1) (T := TX1) (N := 10) hx hb hts hinRX1 hown hK hP 0 rfl rfl 2 (by decide) hf_13 (fun _ h9 => h9) rfl dX1_latestOut_10 ?_
    refine lv_aload_n hx hb dX1_latestOut_13 rfl (lv_at hl 0 rfl) ?_
    refine lv_iload_n hx hb dX1_latestOut_14 rfl (lv_at hl 1 rfl) ?_
    refine rd_calli (va_runV (As := [.int (nI t)]) (rest := [.ref ko]) ⟨hx, hb, hml, hown, hts⟩ (c_X1_latest l D k0 kv ko ks km kt kp kb cZ cD cI th mv io sz mk se pv pd op mw hsz t (by omega) (by omega)) (cwV 1 hts gX1_latestOut_X1_latest rfl rfl rfl (by decide +kernel) ⟨Nat.le_of_ble_eq_true rfl, Nat.le_of_ble_eq_true rfl⟩) ⟨fun a U g mk q => ⟨q.1, q.2.1, va_K.moved (u := U) (U := U.calling g mk a) (Vm.Alike.refl U.vm) q.2.2⟩, va_recv hK hP (ci := 2) (q0 := 0) rfl rfl, fun U hU hW => ⟨rfl, by rw [hU]; exact hP, va_K.moved hW.alike hK⟩⟩ rfl rfl hl.1 rfl (lv_room (Nat.le_of_ble_eq_true rfl)) dX1_latestOut_15 ⟨Nat.le_of_ble_eq_true rfl, Nat.le_of_ble_eq_true rfl⟩) (fun r_3 hr_3 => ?_)
    subst hr_3
    refine kn_zald hx hb hK hP 2 0 rfl rfl (by omega) (by decide) dX1_latestOut_18 ?_
    refine kb_eq (tgt := 26) hx hb dX1_latestOut_19 (by decide) (fun c_4 => ?_) (fun c_4 => ?_)
    · refine lv_iconst (v := nI 0) hx hb dX1_latestOut_26 (by decide) ?_
      refine kt_i (y := b2i false) rfl ?_
      exact W.zret (v := b2i false) hx hb hr (b2i_nar _) (fun t9 ht9 hW9 => ⟨⟨_, rfl, congrArg b2i (show false = lo io sz t from by first | rfl | (simp [lo, c_2, c_4]; done) | (simp only [Nat.add_zero] at c_2 c_4; simp [lo, c_2, c_4]; done))⟩, ht9⟩) (fun q hq => absurd hq List.not_mem_nil) dX1_latestOut_27
    · refine lv_iconst (v := nI 1) hx hb dX1_latestOut_22 (by decide) ?_
      refine lv_goto (tgt := 27) hx hb dX1_latestOut_23 (by decide) ?_
      refine kt_i (y := b2i true) rfl ?_
      exact W.zret (v := b2i true) hx hb hr (b2i_nar _) (fun t9 ht9 hW9 => ⟨⟨_, rfl, congrArg b2i (show true = lo io sz t from by first | rfl | (simp [lo, c_2, c_4]; done) | (simp only [Nat.add_zero] at c_2 c_4; simp [lo, c_2, c_4]; done))⟩, ht9⟩) (fun q hq => absurd hq List.not_mem_nil) dX1_latestOut_27
set_option maxHeartbeats 4000000 in
set_option maxRecDepth 100000 in
theorem c_X1_latestValue (l : Launch) (D : va_G) (k0 kv ko ks km kt kp kb : Nat) (cZ cD cI : ClassId) (th : Nat) (mv : Nat → UInt64) (io : Nat → Bool) (sz : Nat → Nat) (mk : Nat → UInt64) (se : Nat → Bool) (pv : Nat → UInt64) (pd : Nat → Bool) (op : Bool) (mw : Int32) (hsz : ∀ j, sz j ≤ 12) (t : Nat) (ht : t < 12) : Met l yX1_latestValue wsX1_latestValue ({ frames := 1, cells := 0, slots := 0, locals := 21 }) (va_Pc [.ref k0, .int (nI t)] (fun U => va_P D vwCl (WM k0 kv ko ks km kt kp kb cZ cD cI th mv io sz mk se pv pd op mw) U.heap ∧ va_K D vwCl (TY cZ cD cI) U)) (rd_Qd (fun r => r = lw mv sz t)) 0 0 (fun _ => False) := by
  refine Met.ofW (cc := cX1_latestValue) (maxL := 2) (ret := some .double) (by decide) rfl ?_
  intro p e s m args below meth c s₁ B hml hv
  obtain ⟨rfl, hP, hK⟩ := hv
  have hx := B.exec
  have hb := B.bytes
  have hr := B.returns
  have hts := atoms_spec (ws := wsX1_latestValue) B.pre
  have hown : s.vm.findClass RX1 = some m.cls := findClass_of_methodNamed B.named
  have hlocks := B.notSynchronized
  have hl := lv_entry ([.ref k0, .int (nI t)]) (n := 2) (Nat.le_of_ble_eq_true rfl)
  rw [lg_entry_eq]
  generalize (lg_sl ([.ref k0, .int (nI t)]) ++ List.replicate (2 - (lg_sl ([.ref k0, .int (nI t)])).length) Slot.unset).toArray = ls at hl ⊢
  have hl : lv_has ls 2 [(0, .ref k0), (1, .int (nI t))] := hl
  have hinRX1 : ∀ w ∈ wsX10, w ∈ wsX1_latestValue := by decide +kernel
  have hf_17 := hts (.fieldLink RX1 17 "HarbourBoardModel" "sizes" "[I") (by decide +kernel)
  have hf_7 := hts (.fieldLink RX1 7 "HarbourBoardModel" "value" "[D") (by decide +kernel)
  have h1 := hsz t
  refine lv_aload_n hx hb dX1_latestValue_0 rfl (lv_at hl 0 rfl) ?_
  refine va_get (D := D) (ci := 2) (v := .ref ks) (C := RX1) (T := TX1) (N := 10) hx hb hts hinRX1 hown hK hP 0 rfl rfl 3 (by decide) hf_17 (fun _ h9 => h9) rfl dX1_latestValue_1 ?_
  refine lv_iload_n hx hb dX1_latestValue_4 rfl (lv_at hl 1 rfl) ?_
  refine kn_iald hx hb hK hP 3 2 rfl rfl (by omega) (by decide) dX1_latestValue_5 ?_
  refine kn_ne (tgt := 13) hx hb (by omega) dX1_latestValue_6 (by decide) (fun c_2 => ?_) (fun c_2 => ?_)
  · refine lv_aload_n hx hb dX1_latestValue_13 rfl (lv_at hl 0 rfl) ?_
    refine va_get (D := D) (ci := 2) (v := .ref kv) (C := RX1) (T := TX1) (N := 10) hx hb hts hinRX1 hown hK hP 0 rfl rfl 1 (by decide) hf_7 (fun _ h9 => h9) rfl dX1_latestValue_14 ?_
    refine lv_aload_n hx hb dX1_latestValue_17 rfl (lv_at hl 0 rfl) ?_
    refine lv_iload_n hx hb dX1_latestValue_18 rfl (lv_at hl 1 rfl) ?_
    refine rd_calli (va_runV (As := [.int (nI t)]) (rest := [.ref kv]) ⟨hx, hb, hml, hown, hts⟩ (c_X1_latest l D k0 kv ko ks km kt kp kb cZ cD cI th mv io sz mk se pv pd op mw hsz t (by omega) (by omega)) (cwV 1 hts gX1_latestValue_X1_latest rfl rfl rfl (by decide +kernel) ⟨Nat.le_of_ble_eq_true rfl, Nat.le_of_ble_eq_true rfl⟩) ⟨fun a U g mk q => ⟨q.1, q.2.1, va_K.moved (u := U) (U := U.calling g mk a) (Vm.Alike.refl U.vm) q.2.2⟩, va_recv hK hP (ci := 2) (q0 := 0) rfl rfl, fun U hU hW => ⟨rfl, by rw [hU]; exact hP, va_K.moved hW.alike hK⟩⟩ rfl rfl hl.1 rfl (lv_room (Nat.le_of_ble_eq_true rfl)) dX1_latestValue_19 ⟨Nat.le_of_ble_eq_true rfl, Nat.le_of_ble_eq_true rfl⟩) (fun r_3 hr_3 => ?_)
    subst hr_3
    refine kn_dald hx hb hK hP 1 1 rfl rfl (by omega) (by decide) dX1_latestValue_22 ?_
    exact W.dret (v := mv (12 * t + sz t - 1)) hx hb hr (fun t9 ht9 hW9 => ⟨⟨_, rfl, by simp [lw, c_2]⟩, ht9⟩) (fun q hq => absurd hq List.not_mem_nil) dX1_latestValue_23
  · refine lv_dconst0 hx hb dX1_latestValue_9 ?_
    refine lv_goto (tgt := 23) hx hb dX1_latestValue_10 (by decide) ?_
    exact W.dret (v := FP.dconst0) hx hb hr (fun t9 ht9 hW9 => ⟨⟨_, rfl, by simp [lw, c_2]⟩, ht9⟩) (fun q hq => absurd hq List.not_mem_nil) dX1_latestValue_23
set_option maxHeartbeats 4000000 in
set_option maxRecDepth 100000 in
theorem c_X1_latestWay (l : Launch) (D : va_G) (k0 kv ko ks km kt kp kb : Nat) (cZ cD cI : ClassId) (th : Nat) (mv : Nat → UInt64) (io : Nat → Bool) (sz : Nat → Nat) (mk : Nat → UInt64) (se : Nat → Bool) (pv : Nat → UInt64) (pd : Nat → Bool) (op : Bool) (mw : Int32) (hsz : ∀ j, sz j ≤ 12) (t : Nat) (u : Nat) (ht : t < 12) (hu : u < 12) : Met l yX1_latestWay wsX1_latestWay ({ frames := 2, cells := 0, slots := 0, locals := 42 }) (va_Pc [.ref k0, .int (nI t), .int (nI u)] (fun U => va_P D vwCl (WM k0 kv ko ks km kt kp kb cZ cD cI th mv io sz mk se pv pd op mw) U.heap ∧ va_K D vwCl (TY cZ cD cI) U)) (rd_Qi (fun r => r = nI (wy (lo io sz t || lo io sz u) (lw mv sz t) (lw mv sz u)))) 0 0 (fun _ => False) := by
  refine Met.ofW (cc := cX1_latestWay) (maxL := 3) (ret := some .int) (by decide) rfl ?_
  intro p e s m args below meth c s₁ B hml hv
  obtain ⟨rfl, hP, hK⟩ := hv
  have hx := B.exec
  have hb := B.bytes
  have hr := B.returns
  have hts := atoms_spec (ws := wsX1_latestWay) B.pre
  have hown : s.vm.findClass RX1 = some m.cls := findClass_of_methodNamed B.named
  have hlocks := B.notSynchronized
  have hl := lv_entry ([.ref k0, .int (nI t), .int (nI u)]) (n := 3) (Nat.le_of_ble_eq_true rfl)
  rw [lg_entry_eq]
  generalize (lg_sl ([.ref k0, .int (nI t), .int (nI u)]) ++ List.replicate (3 - (lg_sl ([.ref k0, .int (nI t), .int (nI u)])).length) Slot.unset).toArray = ls at hl ⊢
  have hl : lv_has ls 3 [(0, .ref k0), (1, .int (nI t)), (2, .int (nI u))] := hl
  refine lv_aload_n hx hb dX1_latestWay_0 rfl (lv_at hl 0 rfl) ?_
  refine lv_iload_n hx hb dX1_latestWay_1 rfl (lv_at hl 1 rfl) ?_
  refine rd_calli (va_runV (As := [.int (nI t)]) (rest := []) ⟨hx, hb, hml, hown, hts⟩ (c_X1_latestOut l D k0 kv ko ks km kt kp kb cZ cD cI th mv io sz mk se pv pd op mw hsz t (by omega)) (cwV 1 hts gX1_latestWay_X1_latestOut rfl rfl rfl (by decide +kernel) ⟨Nat.le_of_ble_eq_true rfl, Nat.le_of_ble_eq_true rfl⟩) ⟨fun a U g mk q => ⟨q.1, q.2.1, va_K.moved (u := U) (U := U.calling g mk a) (Vm.Alike.refl U.vm) q.2.2⟩, va_recv hK hP (ci := 2) (q0 := 0) rfl rfl, fun U hU hW => ⟨rfl, by rw [hU]; exact hP, va_K.moved hW.alike hK⟩⟩ rfl rfl hl.1 rfl (lv_room (Nat.le_of_ble_eq_true rfl)) dX1_latestWay_2 ⟨Nat.le_of_ble_eq_true rfl, Nat.le_of_ble_eq_true rfl⟩) (fun r_1 hr_1 => ?_)
  subst hr_1
  refine kb_ne (tgt := 16) hx hb dX1_latestWay_5 (by decide) (fun c_2 => ?_) (fun c_2 => ?_)
  · refine lv_iconst (v := nI 1) hx hb dX1_latestWay_16 (by decide) ?_
    refine lv_goto (tgt := 21) hx hb dX1_latestWay_17 (by decide) ?_
    refine lv_aload_n hx hb dX1_latestWay_21 rfl (lv_at hl 0 rfl) ?_
    refine lv_iload_n hx hb dX1_latestWay_22 rfl (lv_at hl 1 rfl) ?_
    refine rd_calld (va_runV (As := [.int (nI t)]) (rest := [.int (nI 1)]) ⟨hx, hb, hml, hown, hts⟩ (c_X1_latestValue l D k0 kv ko ks km kt kp kb cZ cD cI th mv io sz mk se pv pd op mw hsz t (by omega)) (cwV 1 hts gX1_latestWay_X1_latestValue rfl rfl rfl (by decide +kernel) ⟨Nat.le_of_ble_eq_true rfl, Nat.le_of_ble_eq_true rfl⟩) ⟨fun a U g mk q => ⟨q.1, q.2.1, va_K.moved (u := U) (U := U.calling g mk a) (Vm.Alike.refl U.vm) q.2.2⟩, va_recv hK hP (ci := 2) (q0 := 0) rfl rfl, fun U hU hW => ⟨rfl, by rw [hU]; exact hP, va_K.moved hW.alike hK⟩⟩ rfl rfl hl.1 rfl (lv_room (Nat.le_of_ble_eq_true rfl)) dX1_latestWay_23 ⟨Nat.le_of_ble_eq_true rfl, Nat.le_of_ble_eq_true rfl⟩) (fun r_3 hr_3 => ?_)
    subst hr_3
    refine lv_aload_n hx hb dX1_latestWay_26 rfl (lv_at hl 0 rfl) ?_
    refine lv_iload_n hx hb dX1_latestWay_27 rfl (lv_at hl 2 rfl) ?_
    refine rd_calld (va_runV (As := [.int (nI u)]) (rest := [.double (lw mv sz t), .int (nI 1)]) ⟨hx, hb, hml, hown, hts⟩ (c_X1_latestValue l D k0 kv ko ks km kt kp kb cZ cD cI th mv io sz mk se pv pd op mw hsz u (by omega)) (cwV 1 hts gX1_latestWay_X1_latestValue rfl rfl rfl (by decide +kernel) ⟨Nat.le_of_ble_eq_true rfl, Nat.le_of_ble_eq_true rfl⟩) ⟨fun a U g mk q => ⟨q.1, q.2.1, va_K.moved (u := U) (U := U.calling g mk a) (Vm.Alike.refl U.vm) q.2.2⟩, va_recv hK hP (ci := 2) (q0 := 0) rfl rfl, fun U hU hW => ⟨rfl, by rw [hU]; exact hP, va_K.moved hW.alike hK⟩⟩ rfl rfl hl.1 rfl (lv_room (Nat.le_of_ble_eq_true rfl)) dX1_latestWay_28 ⟨Nat.le_of_ble_eq_true rfl, Nat.le_of_ble_eq_true rfl⟩) (fun r_4 hr_4 => ?_)
    subst hr_4
    refine rd_calli (va_runS (As := [.int (b2i true), .double (lw mv sz t), .double (lw mv sz u)]) (rest := []) ⟨hx, hb, hml, hown, hts⟩ (c_X1_way l true (lw mv sz t) (lw mv sz u) ) (va_cwS 3 hts gX1_latestWay_X1_way rfl rfl rfl (by decide +kernel) ⟨Nat.le_of_ble_eq_true rfl, Nat.le_of_ble_eq_true rfl⟩) ⟨fun a U g mk q => q, fun U hU hW => ⟨rfl, trivial⟩⟩ rfl rfl hl.1 rfl (lv_room (Nat.le_of_ble_eq_true rfl)) dX1_latestWay_31 ⟨Nat.le_of_ble_eq_true rfl, Nat.le_of_ble_eq_true rfl⟩) (fun r_5 hr_5 => ?_)
    subst hr_5
    exact W.iret (v := nI (wy true (lw mv sz t) (lw mv sz u))) hx hb hr (fun t9 ht9 hW9 => ⟨⟨_, rfl, congrArg nI (show wy true (lw mv sz t) (lw mv sz u) = (wy (lo io sz t || lo io sz u) (lw mv sz t) (lw mv sz u)) from by first | rfl | (simp [c_2]; done) | (simp only [Nat.add_zero] at c_2; simp [c_2]; done))⟩, ht9⟩) (fun q hq => absurd hq List.not_mem_nil) dX1_latestWay_34
  · refine lv_aload_n hx hb dX1_latestWay_8 rfl (lv_at hl 0 rfl) ?_
    refine lv_iload_n hx hb dX1_latestWay_9 rfl (lv_at hl 2 rfl) ?_
    refine rd_calli (va_runV (As := [.int (nI u)]) (rest := []) ⟨hx, hb, hml, hown, hts⟩ (c_X1_latestOut l D k0 kv ko ks km kt kp kb cZ cD cI th mv io sz mk se pv pd op mw hsz u (by omega)) (cwV 1 hts gX1_latestWay_X1_latestOut rfl rfl rfl (by decide +kernel) ⟨Nat.le_of_ble_eq_true rfl, Nat.le_of_ble_eq_true rfl⟩) ⟨fun a U g mk q => ⟨q.1, q.2.1, va_K.moved (u := U) (U := U.calling g mk a) (Vm.Alike.refl U.vm) q.2.2⟩, va_recv hK hP (ci := 2) (q0 := 0) rfl rfl, fun U hU hW => ⟨rfl, by rw [hU]; exact hP, va_K.moved hW.alike hK⟩⟩ rfl rfl hl.1 rfl (lv_room (Nat.le_of_ble_eq_true rfl)) dX1_latestWay_10 ⟨Nat.le_of_ble_eq_true rfl, Nat.le_of_ble_eq_true rfl⟩) (fun r_6 hr_6 => ?_)
    subst hr_6
    refine kb_eq (tgt := 20) hx hb dX1_latestWay_13 (by decide) (fun c_7 => ?_) (fun c_7 => ?_)
    · refine lv_iconst (v := nI 0) hx hb dX1_latestWay_20 (by decide) ?_
      refine lv_aload_n hx hb dX1_latestWay_21 rfl (lv_at hl 0 rfl) ?_
      refine lv_iload_n hx hb dX1_latestWay_22 rfl (lv_at hl 1 rfl) ?_
      refine rd_calld (va_runV (As := [.int (nI t)]) (rest := [.int (nI 0)]) ⟨hx, hb, hml, hown, hts⟩ (c_X1_latestValue l D k0 kv ko ks km kt kp kb cZ cD cI th mv io sz mk se pv pd op mw hsz t (by omega)) (cwV 1 hts gX1_latestWay_X1_latestValue rfl rfl rfl (by decide +kernel) ⟨Nat.le_of_ble_eq_true rfl, Nat.le_of_ble_eq_true rfl⟩) ⟨fun a U g mk q => ⟨q.1, q.2.1, va_K.moved (u := U) (U := U.calling g mk a) (Vm.Alike.refl U.vm) q.2.2⟩, va_recv hK hP (ci := 2) (q0 := 0) rfl rfl, fun U hU hW => ⟨rfl, by rw [hU]; exact hP, va_K.moved hW.alike hK⟩⟩ rfl rfl hl.1 rfl (lv_room (Nat.le_of_ble_eq_true rfl)) dX1_latestWay_23 ⟨Nat.le_of_ble_eq_true rfl, Nat.le_of_ble_eq_true rfl⟩) (fun r_8 hr_8 => ?_)
      subst hr_8
      refine lv_aload_n hx hb dX1_latestWay_26 rfl (lv_at hl 0 rfl) ?_
      refine lv_iload_n hx hb dX1_latestWay_27 rfl (lv_at hl 2 rfl) ?_
      refine rd_calld (va_runV (As := [.int (nI u)]) (rest := [.double (lw mv sz t), .int (nI 0)]) ⟨hx, hb, hml, hown, hts⟩ (c_X1_latestValue l D k0 kv ko ks km kt kp kb cZ cD cI th mv io sz mk se pv pd op mw hsz u (by omega)) (cwV 1 hts gX1_latestWay_X1_latestValue rfl rfl rfl (by decide +kernel) ⟨Nat.le_of_ble_eq_true rfl, Nat.le_of_ble_eq_true rfl⟩) ⟨fun a U g mk q => ⟨q.1, q.2.1, va_K.moved (u := U) (U := U.calling g mk a) (Vm.Alike.refl U.vm) q.2.2⟩, va_recv hK hP (ci := 2) (q0 := 0) rfl rfl, fun U hU hW => ⟨rfl, by rw [hU]; exact hP, va_K.moved hW.alike hK⟩⟩ rfl rfl hl.1 rfl (lv_room (Nat.le_of_ble_eq_true rfl)) dX1_latestWay_28 ⟨Nat.le_of_ble_eq_true rfl, Nat.le_of_ble_eq_true rfl⟩) (fun r_9 hr_9 => ?_)
      subst hr_9
      refine rd_calli (va_runS (As := [.int (b2i false), .double (lw mv sz t), .double (lw mv sz u)]) (rest := []) ⟨hx, hb, hml, hown, hts⟩ (c_X1_way l false (lw mv sz t) (lw mv sz u) ) (va_cwS 3 hts gX1_latestWay_X1_way rfl rfl rfl (by decide +kernel) ⟨Nat.le_of_ble_eq_true rfl, Nat.le_of_ble_eq_true rfl⟩) ⟨fun a U g mk q => q, fun U hU hW => ⟨rfl, trivial⟩⟩ rfl rfl hl.1 rfl (lv_room (Nat.le_of_ble_eq_true rfl)) dX1_latestWay_31 ⟨Nat.le_of_ble_eq_true rfl, Nat.le_of_ble_eq_true rfl⟩) (fun r_10 hr_10 => ?_)
      subst hr_10
      exact W.iret (v := nI (wy false (lw mv sz t) (lw mv sz u))) hx hb hr (fun t9 ht9 hW9 => ⟨⟨_, rfl, congrArg nI (show wy false (lw mv sz t) (lw mv sz u) = (wy (lo io sz t || lo io sz u) (lw mv sz t) (lw mv sz u)) from by first | rfl | (simp [c_2, c_7]; done) | (simp only [Nat.add_zero] at c_2 c_7; simp [c_2, c_7]; done))⟩, ht9⟩) (fun q hq => absurd hq List.not_mem_nil) dX1_latestWay_34
    · refine lv_iconst (v := nI 1) hx hb dX1_latestWay_16 (by decide) ?_
      refine lv_goto (tgt := 21) hx hb dX1_latestWay_17 (by decide) ?_
      refine lv_aload_n hx hb dX1_latestWay_21 rfl (lv_at hl 0 rfl) ?_
      refine lv_iload_n hx hb dX1_latestWay_22 rfl (lv_at hl 1 rfl) ?_
      refine rd_calld (va_runV (As := [.int (nI t)]) (rest := [.int (nI 1)]) ⟨hx, hb, hml, hown, hts⟩ (c_X1_latestValue l D k0 kv ko ks km kt kp kb cZ cD cI th mv io sz mk se pv pd op mw hsz t (by omega)) (cwV 1 hts gX1_latestWay_X1_latestValue rfl rfl rfl (by decide +kernel) ⟨Nat.le_of_ble_eq_true rfl, Nat.le_of_ble_eq_true rfl⟩) ⟨fun a U g mk q => ⟨q.1, q.2.1, va_K.moved (u := U) (U := U.calling g mk a) (Vm.Alike.refl U.vm) q.2.2⟩, va_recv hK hP (ci := 2) (q0 := 0) rfl rfl, fun U hU hW => ⟨rfl, by rw [hU]; exact hP, va_K.moved hW.alike hK⟩⟩ rfl rfl hl.1 rfl (lv_room (Nat.le_of_ble_eq_true rfl)) dX1_latestWay_23 ⟨Nat.le_of_ble_eq_true rfl, Nat.le_of_ble_eq_true rfl⟩) (fun r_11 hr_11 => ?_)
      subst hr_11
      refine lv_aload_n hx hb dX1_latestWay_26 rfl (lv_at hl 0 rfl) ?_
      refine lv_iload_n hx hb dX1_latestWay_27 rfl (lv_at hl 2 rfl) ?_
      refine rd_calld (va_runV (As := [.int (nI u)]) (rest := [.double (lw mv sz t), .int (nI 1)]) ⟨hx, hb, hml, hown, hts⟩ (c_X1_latestValue l D k0 kv ko ks km kt kp kb cZ cD cI th mv io sz mk se pv pd op mw hsz u (by omega)) (cwV 1 hts gX1_latestWay_X1_latestValue rfl rfl rfl (by decide +kernel) ⟨Nat.le_of_ble_eq_true rfl, Nat.le_of_ble_eq_true rfl⟩) ⟨fun a U g mk q => ⟨q.1, q.2.1, va_K.moved (u := U) (U := U.calling g mk a) (Vm.Alike.refl U.vm) q.2.2⟩, va_recv hK hP (ci := 2) (q0 := 0) rfl rfl, fun U hU hW => ⟨rfl, by rw [hU]; exact hP, va_K.moved hW.alike hK⟩⟩ rfl rfl hl.1 rfl (lv_room (Nat.le_of_ble_eq_true rfl)) dX1_latestWay_28 ⟨Nat.le_of_ble_eq_true rfl, Nat.le_of_ble_eq_true rfl⟩) (fun r_12 hr_12 => ?_)
      subst hr_12
      refine rd_calli (va_runS (As := [.int (b2i true), .double (lw mv sz t), .double (lw mv sz u)]) (rest := []) ⟨hx, hb, hml, hown, hts⟩ (c_X1_way l true (lw mv sz t) (lw mv sz u) ) (va_cwS 3 hts gX1_latestWay_X1_way rfl rfl rfl (by decide +kernel) ⟨Nat.le_of_ble_eq_true rfl, Nat.le_of_ble_eq_true rfl⟩) ⟨fun a U g mk q => q, fun U hU hW => ⟨rfl, trivial⟩⟩ rfl rfl hl.1 rfl (lv_room (Nat.le_of_ble_eq_true rfl)) dX1_latestWay_31 ⟨Nat.le_of_ble_eq_true rfl, Nat.le_of_ble_eq_true rfl⟩) (fun r_13 hr_13 => ?_)
      subst hr_13
      exact W.iret (v := nI (wy true (lw mv sz t) (lw mv sz u))) hx hb hr (fun t9 ht9 hW9 => ⟨⟨_, rfl, congrArg nI (show wy true (lw mv sz t) (lw mv sz u) = (wy (lo io sz t || lo io sz u) (lw mv sz t) (lw mv sz u)) from by first | rfl | (simp [c_2, c_7]; done) | (simp only [Nat.add_zero] at c_2 c_7; simp [c_2, c_7]; done))⟩, ht9⟩) (fun q hq => absurd hq List.not_mem_nil) dX1_latestWay_34
set_option maxHeartbeats 4000000 in
set_option maxRecDepth 100000 in
theorem c_X1_probeWay (l : Launch) (D : va_G) (k0 kv ko ks km kt kp kb : Nat) (cZ cD cI : ClassId) (th : Nat) (mv : Nat → UInt64) (io : Nat → Bool) (sz : Nat → Nat) (mk : Nat → UInt64) (se : Nat → Bool) (pv : Nat → UInt64) (pd : Nat → Bool) (op : Bool) (mw : Int32) (hsz : ∀ j, sz j ≤ 12) (q : Nat) (w : Nat) (hq1 : q < 144) (hw : w < 2) : Met l yX1_probeWay wsX1_probeWay ({ frames := 1, cells := 0, slots := 0, locals := 24 }) (va_Pc [.ref k0, .int (nI q), .int (nI w)] (fun U => va_P D vwCl (WM k0 kv ko ks km kt kp kb cZ cD cI th mv io sz mk se pv pd op mw) U.heap ∧ va_K D vwCl (TY cZ cD cI) U)) (rd_Qi (fun r => r = nI (wy (io q || !pd w) (mv q) (pv w)))) 0 0 (fun _ => False) := by
  refine Met.ofW (cc := cX1_probeWay) (maxL := 3) (ret := some .int) (by decide) rfl ?_
  intro p e s m args below meth c s₁ B hml hv
  obtain ⟨rfl, hP, hK⟩ := hv
  have hx := B.exec
  have hb := B.bytes
  have hr := B.returns
  have hts := atoms_spec (ws := wsX1_probeWay) B.pre
  have hown : s.vm.findClass RX1 = some m.cls := findClass_of_methodNamed B.named
  have hlocks := B.notSynchronized
  have hl := lv_entry ([.ref k0, .int (nI q), .int (nI w)]) (n := 3) (Nat.le_of_ble_eq_true rfl)
  rw [lg_entry_eq]
  generalize (lg_sl ([.ref k0, .int (nI q), .int (nI w)]) ++ List.replicate (3 - (lg_sl ([.ref k0, .int (nI q), .int (nI w)])).length) Slot.unset).toArray = ls at hl ⊢
  have hl : lv_has ls 3 [(0, .ref k0), (1, .int (nI q)), (2, .int (nI w))] := hl
  have hinRX1 : ∀ w ∈ wsX10, w ∈ wsX1_probeWay := by decide +kernel
  have hf_13 := hts (.fieldLink RX1 13 "HarbourBoardModel" "isOut" "[Z") (by decide +kernel)
  have hf_7 := hts (.fieldLink RX1 7 "HarbourBoardModel" "value" "[D") (by decide +kernel)
  have hf_27 := hts (.fieldLink RX1 27 "HarbourBoardModel" "probeValue" "[D") (by decide +kernel)
  have hf_30 := hts (.fieldLink RX1 30 "HarbourBoardModel" "isProbed" "[Z") (by decide +kernel)
  refine lv_aload_n hx hb dX1_probeWay_0 rfl (lv_at hl 0 rfl) ?_
  refine va_get (D := D) (ci := 2) (v := .ref ko) (C := RX1) (T := TX1) (N := 10) hx hb hts hinRX1 hown hK hP 0 rfl rfl 2 (by decide) hf_13 (fun _ h9 => h9) rfl dX1_probeWay_1 ?_
  refine lv_iload_n hx hb dX1_probeWay_4 rfl (lv_at hl 1 rfl) ?_
  refine kn_zald hx hb hK hP 2 0 rfl rfl (by omega) (by decide) dX1_probeWay_5 ?_
  refine kb_ne (tgt := 18) hx hb dX1_probeWay_6 (by decide) (fun c_1 => ?_) (fun c_1 => ?_)
  · refine lv_iconst (v := nI 1) hx hb dX1_probeWay_18 (by decide) ?_
    refine lv_goto (tgt := 23) hx hb dX1_probeWay_19 (by decide) ?_
    refine lv_aload_n hx hb dX1_probeWay_23 rfl (lv_at hl 0 rfl) ?_
    refine va_get (D := D) (ci := 2) (v := .ref kv) (C := RX1) (T := TX1) (N := 10) hx hb hts hinRX1 hown hK hP 0 rfl rfl 1 (by decide) hf_7 (fun _ h9 => h9) rfl dX1_probeWay_24 ?_
    refine lv_iload_n hx hb dX1_probeWay_27 rfl (lv_at hl 1 rfl) ?_
    refine kn_dald hx hb hK hP 1 1 rfl rfl (by omega) (by decide) dX1_probeWay_28 ?_
    refine lv_aload_n hx hb dX1_probeWay_29 rfl (lv_at hl 0 rfl) ?_
    refine va_get (D := D) (ci := 2) (v := .ref kp) (C := RX1) (T := TX1) (N := 10) hx hb hts hinRX1 hown hK hP 0 rfl rfl 6 (by decide) hf_27 (fun _ h9 => h9) rfl dX1_probeWay_30 ?_
    refine lv_iload_n hx hb dX1_probeWay_33 rfl (lv_at hl 2 rfl) ?_
    refine kn_dald hx hb hK hP 6 1 rfl rfl (by omega) (by decide) dX1_probeWay_34 ?_
    refine rd_calli (va_runS (As := [.int (b2i true), .double (mv q), .double (pv w)]) (rest := []) ⟨hx, hb, hml, hown, hts⟩ (c_X1_way l true (mv q) (pv w) ) (va_cwS 3 hts gX1_probeWay_X1_way rfl rfl rfl (by decide +kernel) ⟨Nat.le_of_ble_eq_true rfl, Nat.le_of_ble_eq_true rfl⟩) ⟨fun a U g mk q => q, fun U hU hW => ⟨rfl, trivial⟩⟩ rfl rfl hl.1 rfl (lv_room (Nat.le_of_ble_eq_true rfl)) dX1_probeWay_35 ⟨Nat.le_of_ble_eq_true rfl, Nat.le_of_ble_eq_true rfl⟩) (fun r_2 hr_2 => ?_)
    subst hr_2
    exact W.iret (v := nI (wy true (mv q) (pv w))) hx hb hr (fun t9 ht9 hW9 => ⟨⟨_, rfl, congrArg nI (show wy true (mv q) (pv w) = (wy (io q || !pd w) (mv q) (pv w)) from by first | rfl | (simp [c_1]; done) | (simp only [Nat.add_zero] at c_1; simp [c_1]; done))⟩, ht9⟩) (fun q hq => absurd hq List.not_mem_nil) dX1_probeWay_38
  · refine lv_aload_n hx hb dX1_probeWay_9 rfl (lv_at hl 0 rfl) ?_
    refine va_get (D := D) (ci := 2) (v := .ref kb) (C := RX1) (T := TX1) (N := 10) hx hb hts hinRX1 hown hK hP 0 rfl rfl 7 (by decide) hf_30 (fun _ h9 => h9) rfl dX1_probeWay_10 ?_
    refine lv_iload_n hx hb dX1_probeWay_13 rfl (lv_at hl 2 rfl) ?_
    refine kn_zald hx hb hK hP 7 0 rfl rfl (by omega) (by decide) dX1_probeWay_14 ?_
    refine kb_ne (tgt := 22) hx hb dX1_probeWay_15 (by decide) (fun c_3 => ?_) (fun c_3 => ?_)
    · refine lv_iconst (v := nI 0) hx hb dX1_probeWay_22 (by decide) ?_
      refine lv_aload_n hx hb dX1_probeWay_23 rfl (lv_at hl 0 rfl) ?_
      refine va_get (D := D) (ci := 2) (v := .ref kv) (C := RX1) (T := TX1) (N := 10) hx hb hts hinRX1 hown hK hP 0 rfl rfl 1 (by decide) hf_7 (fun _ h9 => h9) rfl dX1_probeWay_24 ?_
      refine lv_iload_n hx hb dX1_probeWay_27 rfl (lv_at hl 1 rfl) ?_
      refine kn_dald hx hb hK hP 1 1 rfl rfl (by omega) (by decide) dX1_probeWay_28 ?_
      refine lv_aload_n hx hb dX1_probeWay_29 rfl (lv_at hl 0 rfl) ?_
      refine va_get (D := D) (ci := 2) (v := .ref kp) (C := RX1) (T := TX1) (N := 10) hx hb hts hinRX1 hown hK hP 0 rfl rfl 6 (by decide) hf_27 (fun _ h9 => h9) rfl dX1_probeWay_30 ?_
      refine lv_iload_n hx hb dX1_probeWay_33 rfl (lv_at hl 2 rfl) ?_
      refine kn_dald hx hb hK hP 6 1 rfl rfl (by omega) (by decide) dX1_probeWay_34 ?_
      refine rd_calli (va_runS (As := [.int (b2i false), .double (mv q), .double (pv w)]) (rest := []) ⟨hx, hb, hml, hown, hts⟩ (c_X1_way l false (mv q) (pv w) ) (va_cwS 3 hts gX1_probeWay_X1_way rfl rfl rfl (by decide +kernel) ⟨Nat.le_of_ble_eq_true rfl, Nat.le_of_ble_eq_true rfl⟩) ⟨fun a U g mk q => q, fun U hU hW => ⟨rfl, trivial⟩⟩ rfl rfl hl.1 rfl (lv_room (Nat.le_of_ble_eq_true rfl)) dX1_probeWay_35 ⟨Nat.le_of_ble_eq_true rfl, Nat.le_of_ble_eq_true rfl⟩) (fun r_4 hr_4 => ?_)
      subst hr_4
      exact W.iret (v := nI (wy false (mv q) (pv w))) hx hb hr (fun t9 ht9 hW9 => ⟨⟨_, rfl, congrArg nI (show wy false (mv q) (pv w) = (wy (io q || !pd w) (mv q) (pv w)) from by first | rfl | (simp [c_1, c_3]; done) | (simp only [Nat.add_zero] at c_1 c_3; simp [c_1, c_3]; done))⟩, ht9⟩) (fun q hq => absurd hq List.not_mem_nil) dX1_probeWay_38
    · refine lv_iconst (v := nI 1) hx hb dX1_probeWay_18 (by decide) ?_
      refine lv_goto (tgt := 23) hx hb dX1_probeWay_19 (by decide) ?_
      refine lv_aload_n hx hb dX1_probeWay_23 rfl (lv_at hl 0 rfl) ?_
      refine va_get (D := D) (ci := 2) (v := .ref kv) (C := RX1) (T := TX1) (N := 10) hx hb hts hinRX1 hown hK hP 0 rfl rfl 1 (by decide) hf_7 (fun _ h9 => h9) rfl dX1_probeWay_24 ?_
      refine lv_iload_n hx hb dX1_probeWay_27 rfl (lv_at hl 1 rfl) ?_
      refine kn_dald hx hb hK hP 1 1 rfl rfl (by omega) (by decide) dX1_probeWay_28 ?_
      refine lv_aload_n hx hb dX1_probeWay_29 rfl (lv_at hl 0 rfl) ?_
      refine va_get (D := D) (ci := 2) (v := .ref kp) (C := RX1) (T := TX1) (N := 10) hx hb hts hinRX1 hown hK hP 0 rfl rfl 6 (by decide) hf_27 (fun _ h9 => h9) rfl dX1_probeWay_30 ?_
      refine lv_iload_n hx hb dX1_probeWay_33 rfl (lv_at hl 2 rfl) ?_
      refine kn_dald hx hb hK hP 6 1 rfl rfl (by omega) (by decide) dX1_probeWay_34 ?_
      refine rd_calli (va_runS (As := [.int (b2i true), .double (mv q), .double (pv w)]) (rest := []) ⟨hx, hb, hml, hown, hts⟩ (c_X1_way l true (mv q) (pv w) ) (va_cwS 3 hts gX1_probeWay_X1_way rfl rfl rfl (by decide +kernel) ⟨Nat.le_of_ble_eq_true rfl, Nat.le_of_ble_eq_true rfl⟩) ⟨fun a U g mk q => q, fun U hU hW => ⟨rfl, trivial⟩⟩ rfl rfl hl.1 rfl (lv_room (Nat.le_of_ble_eq_true rfl)) dX1_probeWay_35 ⟨Nat.le_of_ble_eq_true rfl, Nat.le_of_ble_eq_true rfl⟩) (fun r_5 hr_5 => ?_)
      subst hr_5
      exact W.iret (v := nI (wy true (mv q) (pv w))) hx hb hr (fun t9 ht9 hW9 => ⟨⟨_, rfl, congrArg nI (show wy true (mv q) (pv w) = (wy (io q || !pd w) (mv q) (pv w)) from by first | rfl | (simp [c_1, c_3]; done) | (simp only [Nat.add_zero] at c_1 c_3; simp [c_1, c_3]; done))⟩, ht9⟩) (fun q hq => absurd hq List.not_mem_nil) dX1_probeWay_38
set_option maxHeartbeats 4000000 in
set_option maxRecDepth 100000 in
theorem c_X1_markWay (l : Launch) (D : va_G) (k0 kv ko ks km kt kp kb : Nat) (cZ cD cI : ClassId) (th : Nat) (mv : Nat → UInt64) (io : Nat → Bool) (sz : Nat → Nat) (mk : Nat → UInt64) (se : Nat → Bool) (pv : Nat → UInt64) (pd : Nat → Bool) (op : Bool) (mw : Int32) (hsz : ∀ j, sz j ≤ 12) (t : Nat) (q : Nat) (ht : t < 12) (hq1 : q < 18) : Met l yX1_markWay wsX1_markWay ({ frames := 2, cells := 0, slots := 0, locals := 42 }) (va_Pc [.ref k0, .int (nI t), .int (nI q)] (fun U => va_P D vwCl (WM k0 kv ko ks km kt kp kb cZ cD cI th mv io sz mk se pv pd op mw) U.heap ∧ va_K D vwCl (TY cZ cD cI) U)) (rd_Qi (fun r => r = nI (wy (lo io sz t || !se q) (lw mv sz t) (mk q)))) 0 0 (fun _ => False) := by
  refine Met.ofW (cc := cX1_markWay) (maxL := 3) (ret := some .int) (by decide) rfl ?_
  intro p e s m args below meth c s₁ B hml hv
  obtain ⟨rfl, hP, hK⟩ := hv
  have hx := B.exec
  have hb := B.bytes
  have hr := B.returns
  have hts := atoms_spec (ws := wsX1_markWay) B.pre
  have hown : s.vm.findClass RX1 = some m.cls := findClass_of_methodNamed B.named
  have hlocks := B.notSynchronized
  have hl := lv_entry ([.ref k0, .int (nI t), .int (nI q)]) (n := 3) (Nat.le_of_ble_eq_true rfl)
  rw [lg_entry_eq]
  generalize (lg_sl ([.ref k0, .int (nI t), .int (nI q)]) ++ List.replicate (3 - (lg_sl ([.ref k0, .int (nI t), .int (nI q)])).length) Slot.unset).toArray = ls at hl ⊢
  have hl : lv_has ls 3 [(0, .ref k0), (1, .int (nI t)), (2, .int (nI q))] := hl
  have hinRX1 : ∀ w ∈ wsX10, w ∈ wsX1_markWay := by decide +kernel
  have hf_21 := hts (.fieldLink RX1 21 "HarbourBoardModel" "markValue" "[D") (by decide +kernel)
  have hf_24 := hts (.fieldLink RX1 24 "HarbourBoardModel" "isSet" "[Z") (by decide +kernel)
  refine lv_aload_n hx hb dX1_markWay_0 rfl (lv_at hl 0 rfl) ?_
  refine lv_iload_n hx hb dX1_markWay_1 rfl (lv_at hl 1 rfl) ?_
  refine rd_calli (va_runV (As := [.int (nI t)]) (rest := []) ⟨hx, hb, hml, hown, hts⟩ (c_X1_latestOut l D k0 kv ko ks km kt kp kb cZ cD cI th mv io sz mk se pv pd op mw hsz t (by omega)) (cwV 1 hts gX1_markWay_X1_latestOut rfl rfl rfl (by decide +kernel) ⟨Nat.le_of_ble_eq_true rfl, Nat.le_of_ble_eq_true rfl⟩) ⟨fun a U g mk q => ⟨q.1, q.2.1, va_K.moved (u := U) (U := U.calling g mk a) (Vm.Alike.refl U.vm) q.2.2⟩, va_recv hK hP (ci := 2) (q0 := 0) rfl rfl, fun U hU hW => ⟨rfl, by rw [hU]; exact hP, va_K.moved hW.alike hK⟩⟩ rfl rfl hl.1 rfl (lv_room (Nat.le_of_ble_eq_true rfl)) dX1_markWay_2 ⟨Nat.le_of_ble_eq_true rfl, Nat.le_of_ble_eq_true rfl⟩) (fun r_1 hr_1 => ?_)
  subst hr_1
  refine kb_ne (tgt := 17) hx hb dX1_markWay_5 (by decide) (fun c_2 => ?_) (fun c_2 => ?_)
  · refine lv_iconst (v := nI 1) hx hb dX1_markWay_17 (by decide) ?_
    refine lv_goto (tgt := 22) hx hb dX1_markWay_18 (by decide) ?_
    refine lv_aload_n hx hb dX1_markWay_22 rfl (lv_at hl 0 rfl) ?_
    refine lv_iload_n hx hb dX1_markWay_23 rfl (lv_at hl 1 rfl) ?_
    refine rd_calld (va_runV (As := [.int (nI t)]) (rest := [.int (nI 1)]) ⟨hx, hb, hml, hown, hts⟩ (c_X1_latestValue l D k0 kv ko ks km kt kp kb cZ cD cI th mv io sz mk se pv pd op mw hsz t (by omega)) (cwV 1 hts gX1_markWay_X1_latestValue rfl rfl rfl (by decide +kernel) ⟨Nat.le_of_ble_eq_true rfl, Nat.le_of_ble_eq_true rfl⟩) ⟨fun a U g mk q => ⟨q.1, q.2.1, va_K.moved (u := U) (U := U.calling g mk a) (Vm.Alike.refl U.vm) q.2.2⟩, va_recv hK hP (ci := 2) (q0 := 0) rfl rfl, fun U hU hW => ⟨rfl, by rw [hU]; exact hP, va_K.moved hW.alike hK⟩⟩ rfl rfl hl.1 rfl (lv_room (Nat.le_of_ble_eq_true rfl)) dX1_markWay_24 ⟨Nat.le_of_ble_eq_true rfl, Nat.le_of_ble_eq_true rfl⟩) (fun r_3 hr_3 => ?_)
    subst hr_3
    refine lv_aload_n hx hb dX1_markWay_27 rfl (lv_at hl 0 rfl) ?_
    refine va_get (D := D) (ci := 2) (v := .ref km) (C := RX1) (T := TX1) (N := 10) hx hb hts hinRX1 hown hK hP 0 rfl rfl 4 (by decide) hf_21 (fun _ h9 => h9) rfl dX1_markWay_28 ?_
    refine lv_iload_n hx hb dX1_markWay_31 rfl (lv_at hl 2 rfl) ?_
    refine kn_dald hx hb hK hP 4 1 rfl rfl (by omega) (by decide) dX1_markWay_32 ?_
    refine rd_calli (va_runS (As := [.int (b2i true), .double (lw mv sz t), .double (mk q)]) (rest := []) ⟨hx, hb, hml, hown, hts⟩ (c_X1_way l true (lw mv sz t) (mk q) ) (va_cwS 3 hts gX1_markWay_X1_way rfl rfl rfl (by decide +kernel) ⟨Nat.le_of_ble_eq_true rfl, Nat.le_of_ble_eq_true rfl⟩) ⟨fun a U g mk q => q, fun U hU hW => ⟨rfl, trivial⟩⟩ rfl rfl hl.1 rfl (lv_room (Nat.le_of_ble_eq_true rfl)) dX1_markWay_33 ⟨Nat.le_of_ble_eq_true rfl, Nat.le_of_ble_eq_true rfl⟩) (fun r_4 hr_4 => ?_)
    subst hr_4
    exact W.iret (v := nI (wy true (lw mv sz t) (mk q))) hx hb hr (fun t9 ht9 hW9 => ⟨⟨_, rfl, congrArg nI (show wy true (lw mv sz t) (mk q) = (wy (lo io sz t || !se q) (lw mv sz t) (mk q)) from by first | rfl | (simp [c_2]; done) | (simp only [Nat.add_zero] at c_2; simp [c_2]; done))⟩, ht9⟩) (fun q hq => absurd hq List.not_mem_nil) dX1_markWay_36
  · refine lv_aload_n hx hb dX1_markWay_8 rfl (lv_at hl 0 rfl) ?_
    refine va_get (D := D) (ci := 2) (v := .ref kt) (C := RX1) (T := TX1) (N := 10) hx hb hts hinRX1 hown hK hP 0 rfl rfl 5 (by decide) hf_24 (fun _ h9 => h9) rfl dX1_markWay_9 ?_
    refine lv_iload_n hx hb dX1_markWay_12 rfl (lv_at hl 2 rfl) ?_
    refine kn_zald hx hb hK hP 5 0 rfl rfl (by omega) (by decide) dX1_markWay_13 ?_
    refine kb_ne (tgt := 21) hx hb dX1_markWay_14 (by decide) (fun c_5 => ?_) (fun c_5 => ?_)
    · refine lv_iconst (v := nI 0) hx hb dX1_markWay_21 (by decide) ?_
      refine lv_aload_n hx hb dX1_markWay_22 rfl (lv_at hl 0 rfl) ?_
      refine lv_iload_n hx hb dX1_markWay_23 rfl (lv_at hl 1 rfl) ?_
      refine rd_calld (va_runV (As := [.int (nI t)]) (rest := [.int (nI 0)]) ⟨hx, hb, hml, hown, hts⟩ (c_X1_latestValue l D k0 kv ko ks km kt kp kb cZ cD cI th mv io sz mk se pv pd op mw hsz t (by omega)) (cwV 1 hts gX1_markWay_X1_latestValue rfl rfl rfl (by decide +kernel) ⟨Nat.le_of_ble_eq_true rfl, Nat.le_of_ble_eq_true rfl⟩) ⟨fun a U g mk q => ⟨q.1, q.2.1, va_K.moved (u := U) (U := U.calling g mk a) (Vm.Alike.refl U.vm) q.2.2⟩, va_recv hK hP (ci := 2) (q0 := 0) rfl rfl, fun U hU hW => ⟨rfl, by rw [hU]; exact hP, va_K.moved hW.alike hK⟩⟩ rfl rfl hl.1 rfl (lv_room (Nat.le_of_ble_eq_true rfl)) dX1_markWay_24 ⟨Nat.le_of_ble_eq_true rfl, Nat.le_of_ble_eq_true rfl⟩) (fun r_6 hr_6 => ?_)
      subst hr_6
      refine lv_aload_n hx hb dX1_markWay_27 rfl (lv_at hl 0 rfl) ?_
      refine va_get (D := D) (ci := 2) (v := .ref km) (C := RX1) (T := TX1) (N := 10) hx hb hts hinRX1 hown hK hP 0 rfl rfl 4 (by decide) hf_21 (fun _ h9 => h9) rfl dX1_markWay_28 ?_
      refine lv_iload_n hx hb dX1_markWay_31 rfl (lv_at hl 2 rfl) ?_
      refine kn_dald hx hb hK hP 4 1 rfl rfl (by omega) (by decide) dX1_markWay_32 ?_
      refine rd_calli (va_runS (As := [.int (b2i false), .double (lw mv sz t), .double (mk q)]) (rest := []) ⟨hx, hb, hml, hown, hts⟩ (c_X1_way l false (lw mv sz t) (mk q) ) (va_cwS 3 hts gX1_markWay_X1_way rfl rfl rfl (by decide +kernel) ⟨Nat.le_of_ble_eq_true rfl, Nat.le_of_ble_eq_true rfl⟩) ⟨fun a U g mk q => q, fun U hU hW => ⟨rfl, trivial⟩⟩ rfl rfl hl.1 rfl (lv_room (Nat.le_of_ble_eq_true rfl)) dX1_markWay_33 ⟨Nat.le_of_ble_eq_true rfl, Nat.le_of_ble_eq_true rfl⟩) (fun r_7 hr_7 => ?_)
      subst hr_7
      exact W.iret (v := nI (wy false (lw mv sz t) (mk q))) hx hb hr (fun t9 ht9 hW9 => ⟨⟨_, rfl, congrArg nI (show wy false (lw mv sz t) (mk q) = (wy (lo io sz t || !se q) (lw mv sz t) (mk q)) from by first | rfl | (simp [c_2, c_5]; done) | (simp only [Nat.add_zero] at c_2 c_5; simp [c_2, c_5]; done))⟩, ht9⟩) (fun q hq => absurd hq List.not_mem_nil) dX1_markWay_36
    · refine lv_iconst (v := nI 1) hx hb dX1_markWay_17 (by decide) ?_
      refine lv_goto (tgt := 22) hx hb dX1_markWay_18 (by decide) ?_
      refine lv_aload_n hx hb dX1_markWay_22 rfl (lv_at hl 0 rfl) ?_
      refine lv_iload_n hx hb dX1_markWay_23 rfl (lv_at hl 1 rfl) ?_
      refine rd_calld (va_runV (As := [.int (nI t)]) (rest := [.int (nI 1)]) ⟨hx, hb, hml, hown, hts⟩ (c_X1_latestValue l D k0 kv ko ks km kt kp kb cZ cD cI th mv io sz mk se pv pd op mw hsz t (by omega)) (cwV 1 hts gX1_markWay_X1_latestValue rfl rfl rfl (by decide +kernel) ⟨Nat.le_of_ble_eq_true rfl, Nat.le_of_ble_eq_true rfl⟩) ⟨fun a U g mk q => ⟨q.1, q.2.1, va_K.moved (u := U) (U := U.calling g mk a) (Vm.Alike.refl U.vm) q.2.2⟩, va_recv hK hP (ci := 2) (q0 := 0) rfl rfl, fun U hU hW => ⟨rfl, by rw [hU]; exact hP, va_K.moved hW.alike hK⟩⟩ rfl rfl hl.1 rfl (lv_room (Nat.le_of_ble_eq_true rfl)) dX1_markWay_24 ⟨Nat.le_of_ble_eq_true rfl, Nat.le_of_ble_eq_true rfl⟩) (fun r_8 hr_8 => ?_)
      subst hr_8
      refine lv_aload_n hx hb dX1_markWay_27 rfl (lv_at hl 0 rfl) ?_
      refine va_get (D := D) (ci := 2) (v := .ref km) (C := RX1) (T := TX1) (N := 10) hx hb hts hinRX1 hown hK hP 0 rfl rfl 4 (by decide) hf_21 (fun _ h9 => h9) rfl dX1_markWay_28 ?_
      refine lv_iload_n hx hb dX1_markWay_31 rfl (lv_at hl 2 rfl) ?_
      refine kn_dald hx hb hK hP 4 1 rfl rfl (by omega) (by decide) dX1_markWay_32 ?_
      refine rd_calli (va_runS (As := [.int (b2i true), .double (lw mv sz t), .double (mk q)]) (rest := []) ⟨hx, hb, hml, hown, hts⟩ (c_X1_way l true (lw mv sz t) (mk q) ) (va_cwS 3 hts gX1_markWay_X1_way rfl rfl rfl (by decide +kernel) ⟨Nat.le_of_ble_eq_true rfl, Nat.le_of_ble_eq_true rfl⟩) ⟨fun a U g mk q => q, fun U hU hW => ⟨rfl, trivial⟩⟩ rfl rfl hl.1 rfl (lv_room (Nat.le_of_ble_eq_true rfl)) dX1_markWay_33 ⟨Nat.le_of_ble_eq_true rfl, Nat.le_of_ble_eq_true rfl⟩) (fun r_9 hr_9 => ?_)
      subst hr_9
      exact W.iret (v := nI (wy true (lw mv sz t) (mk q))) hx hb hr (fun t9 ht9 hW9 => ⟨⟨_, rfl, congrArg nI (show wy true (lw mv sz t) (mk q) = (wy (lo io sz t || !se q) (lw mv sz t) (mk q)) from by first | rfl | (simp [c_2, c_5]; done) | (simp only [Nat.add_zero] at c_2 c_5; simp [c_2, c_5]; done))⟩, ht9⟩) (fun q hq => absurd hq List.not_mem_nil) dX1_markWay_36
set_option maxHeartbeats 4000000 in
set_option maxRecDepth 100000 in
theorem c_X1_isAhead (l : Launch) (D : va_G) (k0 kv ko ks km kt kp kb : Nat) (cZ cD cI : ClassId) (th : Nat) (mv : Nat → UInt64) (io : Nat → Bool) (sz : Nat → Nat) (mk : Nat → UInt64) (se : Nat → Bool) (pv : Nat → UInt64) (pd : Nat → Bool) (op : Bool) (mw : Int32) (hsz : ∀ j, sz j ≤ 12) (g : Nat) (h : Nat) (hg : g < 6) (hh : h < 6) : Met l yX1_isAhead wsX1_isAhead ({ frames := 3, cells := 0, slots := 0, locals := 64 }) (va_Pc [.ref k0, .int (nI g), .int (nI h)] (fun U => va_P D vwCl (WM k0 kv ko ks km kt kp kb cZ cD cI th mv io sz mk se pv pd op mw) U.heap ∧ va_K D vwCl (TY cZ cD cI) U)) (rd_Qi (fun r => r = b2i (ahM io mv sz g h))) 0 0 (fun _ => False) := by
  refine Met.ofW (cc := cX1_isAhead) (maxL := 6) (ret := some .boolean) (by decide) rfl ?_
  intro p e s m args below meth c s₁ B hml hv
  obtain ⟨rfl, hP, hK⟩ := hv
  have hx := B.exec
  have hb := B.bytes
  have hr := B.returns
  have hts := atoms_spec (ws := wsX1_isAhead) B.pre
  have hown : s.vm.findClass RX1 = some m.cls := findClass_of_methodNamed B.named
  have hlocks := B.notSynchronized
  have hl := lv_entry ([.ref k0, .int (nI g), .int (nI h)]) (n := 6) (Nat.le_of_ble_eq_true rfl)
  rw [lg_entry_eq]
  generalize (lg_sl ([.ref k0, .int (nI g), .int (nI h)]) ++ List.replicate (6 - (lg_sl ([.ref k0, .int (nI g), .int (nI h)])).length) Slot.unset).toArray = ls at hl ⊢
  have hl : lv_has ls 6 [(0, .ref k0), (1, .int (nI g)), (2, .int (nI h))] := hl
  refine lv_aload_n hx hb dX1_isAhead_0 rfl (lv_at hl 0 rfl) ?_
  refine lv_iconst (v := nI 2) hx hb dX1_isAhead_1 (by decide) ?_
  refine lv_iload_n hx hb dX1_isAhead_2 rfl (lv_at hl 1 rfl) ?_
  refine kn_imul hx hb dX1_isAhead_3 ?_
  refine rd_calli (va_runV (As := [.int (nI (2 * g))]) (rest := []) ⟨hx, hb, hml, hown, hts⟩ (c_X1_latestOut l D k0 kv ko ks km kt kp kb cZ cD cI th mv io sz mk se pv pd op mw hsz (2 * g) (by omega)) (cwV 1 hts gX1_isAhead_X1_latestOut rfl rfl rfl (by decide +kernel) ⟨Nat.le_of_ble_eq_true rfl, Nat.le_of_ble_eq_true rfl⟩) ⟨fun a U g mk q => ⟨q.1, q.2.1, va_K.moved (u := U) (U := U.calling g mk a) (Vm.Alike.refl U.vm) q.2.2⟩, va_recv hK hP (ci := 2) (q0 := 0) rfl rfl, fun U hU hW => ⟨rfl, by rw [hU]; exact hP, va_K.moved hW.alike hK⟩⟩ rfl rfl hl.1 rfl (lv_room (Nat.le_of_ble_eq_true rfl)) dX1_isAhead_4 ⟨Nat.le_of_ble_eq_true rfl, Nat.le_of_ble_eq_true rfl⟩) (fun r_1 hr_1 => ?_)
  subst hr_1
  refine lv_istore_n (lv' := [(3, .int (b2i (lo io sz (2 * g)))), (0, .ref k0), (1, .int (nI g)), (2, .int (nI h))]) hx hb dX1_isAhead_7 rfl hl (by decide) rfl (fun ls hl => ?_)
  refine lv_aload_n hx hb dX1_isAhead_8 rfl (lv_at hl 1 rfl) ?_
  refine lv_iconst (v := nI 2) hx hb dX1_isAhead_9 (by decide) ?_
  refine lv_iload_n hx hb dX1_isAhead_10 rfl (lv_at hl 3 rfl) ?_
  refine kn_imul hx hb dX1_isAhead_11 ?_
  refine rd_calli (va_runV (As := [.int (nI (2 * h))]) (rest := []) ⟨hx, hb, hml, hown, hts⟩ (c_X1_latestOut l D k0 kv ko ks km kt kp kb cZ cD cI th mv io sz mk se pv pd op mw hsz (2 * h) (by omega)) (cwV 1 hts gX1_isAhead_X1_latestOut rfl rfl rfl (by decide +kernel) ⟨Nat.le_of_ble_eq_true rfl, Nat.le_of_ble_eq_true rfl⟩) ⟨fun a U g mk q => ⟨q.1, q.2.1, va_K.moved (u := U) (U := U.calling g mk a) (Vm.Alike.refl U.vm) q.2.2⟩, va_recv hK hP (ci := 2) (q0 := 0) rfl rfl, fun U hU hW => ⟨rfl, by rw [hU]; exact hP, va_K.moved hW.alike hK⟩⟩ rfl rfl hl.1 rfl (lv_room (Nat.le_of_ble_eq_true rfl)) dX1_isAhead_12 ⟨Nat.le_of_ble_eq_true rfl, Nat.le_of_ble_eq_true rfl⟩) (fun r_2 hr_2 => ?_)
  subst hr_2
  refine lv_istore (lv' := [(4, .int (b2i (lo io sz (2 * h)))), (3, .int (b2i (lo io sz (2 * g)))), (0, .ref k0), (1, .int (nI g)), (2, .int (nI h))]) hx hb dX1_isAhead_15 hl (by decide) rfl (fun ls hl => ?_)
  refine lv_iload_n hx hb dX1_isAhead_17 rfl (lv_at hl 1 rfl) ?_
  refine lv_iload hx hb dX1_isAhead_18 (lv_at hl 0 rfl) ?_
  refine kb_icmp_eq (tgt := 26) hx hb dX1_isAhead_20 (by decide) (fun c_3 => ?_) (fun c_3 => ?_)
  · refine lv_aload_n hx hb dX1_isAhead_26 rfl (lv_at hl 2 rfl) ?_
    refine lv_iconst (v := nI 2) hx hb dX1_isAhead_27 (by decide) ?_
    refine lv_iload_n hx hb dX1_isAhead_28 rfl (lv_at hl 3 rfl) ?_
    refine kn_imul hx hb dX1_isAhead_29 ?_
    refine lv_iconst (v := nI 2) hx hb dX1_isAhead_30 (by decide) ?_
    refine lv_iload_n hx hb dX1_isAhead_31 rfl (lv_at hl 4 rfl) ?_
    refine kn_imul hx hb dX1_isAhead_32 ?_
    refine rd_calli (va_runV (As := [.int (nI (2 * g)), .int (nI (2 * h))]) (rest := []) ⟨hx, hb, hml, hown, hts⟩ (c_X1_latestWay l D k0 kv ko ks km kt kp kb cZ cD cI th mv io sz mk se pv pd op mw hsz (2 * g) (2 * h) (by omega) (by omega)) (cwV 2 hts gX1_isAhead_X1_latestWay rfl rfl rfl (by decide +kernel) ⟨Nat.le_of_ble_eq_true rfl, Nat.le_of_ble_eq_true rfl⟩) ⟨fun a U g mk q => ⟨q.1, q.2.1, va_K.moved (u := U) (U := U.calling g mk a) (Vm.Alike.refl U.vm) q.2.2⟩, va_recv hK hP (ci := 2) (q0 := 0) rfl rfl, fun U hU hW => ⟨rfl, by rw [hU]; exact hP, va_K.moved hW.alike hK⟩⟩ rfl rfl hl.1 rfl (lv_room (Nat.le_of_ble_eq_true rfl)) dX1_isAhead_33 ⟨Nat.le_of_ble_eq_true rfl, Nat.le_of_ble_eq_true rfl⟩) (fun r_4 hr_4 => ?_)
    subst hr_4
    refine lv_istore (lv' := [(5, .int (nI (wy (lo io sz (2 * g) || lo io sz (2 * h)) (lw mv sz (2 * g)) (lw mv sz (2 * h))))), (4, .int (b2i (lo io sz (2 * h)))), (3, .int (b2i (lo io sz (2 * g)))), (0, .ref k0), (1, .int (nI g)), (2, .int (nI h))]) hx hb dX1_isAhead_36 hl (by decide) rfl (fun ls hl => ?_)
    refine lv_iload hx hb dX1_isAhead_38 (lv_at hl 0 rfl) ?_
    refine lv_iconst (v := nI 4) hx hb dX1_isAhead_40 (by decide) ?_
    refine kn_icmp_eq (tgt := 55) hx hb (Nat.lt_trans (wy_lt _ _ _) (by decide)) (by decide) dX1_isAhead_41 (by decide) (fun c_5 => ?_) (fun c_5 => ?_)
    · refine lv_iconst (v := nI 1) hx hb dX1_isAhead_55 (by decide) ?_
      refine lv_goto (tgt := 60) hx hb dX1_isAhead_56 (by decide) ?_
      refine kt_i (y := b2i true) rfl ?_
      exact W.zret (v := b2i true) hx hb hr (b2i_nar _) (fun t9 ht9 hW9 => ⟨⟨_, rfl, congrArg b2i (show true = ahM io mv sz g h from by unfold ahM; rw [if_pos c_3, if_pos c_5])⟩, ht9⟩) (fun q hq => absurd hq List.not_mem_nil) dX1_isAhead_60
    · refine lv_iload hx hb dX1_isAhead_44 (lv_at hl 0 rfl) ?_
      refine lv_iconst (v := nI 1) hx hb dX1_isAhead_46 (by decide) ?_
      refine kn_icmp_eq (tgt := 59) hx hb (Nat.lt_trans (wy_lt _ _ _) (by decide)) (by decide) dX1_isAhead_47 (by decide) (fun c_6 => ?_) (fun c_6 => ?_)
      · refine lv_iconst (v := nI 0) hx hb dX1_isAhead_59 (by decide) ?_
        refine kt_i (y := b2i false) rfl ?_
        exact W.zret (v := b2i false) hx hb hr (b2i_nar _) (fun t9 ht9 hW9 => ⟨⟨_, rfl, congrArg b2i (show false = ahM io mv sz g h from by unfold ahM; rw [if_pos c_3, if_neg c_5, if_pos c_6])⟩, ht9⟩) (fun q hq => absurd hq List.not_mem_nil) dX1_isAhead_60
      · refine lv_iload_n hx hb dX1_isAhead_50 rfl (lv_at hl 4 rfl) ?_
        refine lv_iload_n hx hb dX1_isAhead_51 rfl (lv_at hl 5 rfl) ?_
        refine kn_icmp_ge (tgt := 59) hx hb (by omega) (by omega) dX1_isAhead_52 (by decide) (fun c_7 => ?_) (fun c_7 => ?_)
        · refine lv_iconst (v := nI 0) hx hb dX1_isAhead_59 (by decide) ?_
          refine kt_i (y := b2i false) rfl ?_
          exact W.zret (v := b2i false) hx hb hr (b2i_nar _) (fun t9 ht9 hW9 => ⟨⟨_, rfl, congrArg b2i (show false = ahM io mv sz g h from by unfold ahM; rw [if_pos c_3, if_neg c_5, if_neg c_6]; simp; omega)⟩, ht9⟩) (fun q hq => absurd hq List.not_mem_nil) dX1_isAhead_60
        · refine lv_iconst (v := nI 1) hx hb dX1_isAhead_55 (by decide) ?_
          refine lv_goto (tgt := 60) hx hb dX1_isAhead_56 (by decide) ?_
          refine kt_i (y := b2i true) rfl ?_
          exact W.zret (v := b2i true) hx hb hr (b2i_nar _) (fun t9 ht9 hW9 => ⟨⟨_, rfl, congrArg b2i (show true = ahM io mv sz g h from by unfold ahM; rw [if_pos c_3, if_neg c_5, if_neg c_6]; simp; omega)⟩, ht9⟩) (fun q hq => absurd hq List.not_mem_nil) dX1_isAhead_60
  · refine lv_iload hx hb dX1_isAhead_23 (lv_at hl 0 rfl) ?_
    exact W.zret (v := b2i (lo io sz (2 * h))) hx hb hr (b2i_nar _) (fun t9 ht9 hW9 => ⟨⟨_, rfl, congrArg b2i (show lo io sz (2 * h) = ahM io mv sz g h from by unfold ahM; rw [if_neg c_3])⟩, ht9⟩) (fun q hq => absurd hq List.not_mem_nil) dX1_isAhead_25
set_option maxHeartbeats 4000000 in
set_option maxRecDepth 100000 in
theorem c_X1_levelStand (l : Launch) (D : va_G) (k0 kv ko ks km kt kp kb : Nat) (cZ cD cI : ClassId) (th : Nat) (mv : Nat → UInt64) (io : Nat → Bool) (sz : Nat → Nat) (mk : Nat → UInt64) (se : Nat → Bool) (pv : Nat → UInt64) (pd : Nat → Bool) (op : Bool) (mw : Int32) (hsz : ∀ j, sz j ≤ 12) (g : Nat) (hg : g < 6) : Met l yX1_levelStand wsX1_levelStand ({ frames := 3, cells := 0, slots := 0, locals := 64 }) (va_Pc [.ref k0, .int (nI g)] (fun U => va_P D vwCl (WM k0 kv ko ks km kt kp kb cZ cD cI th mv io sz mk se pv pd op mw) U.heap ∧ va_K D vwCl (TY cZ cD cI) U)) (rd_Qi (fun r => r = nI (slM io mv sz mk se g))) 0 0 (fun _ => False) := by
  refine Met.ofW (cc := cX1_levelStand) (maxL := 4) (ret := some .int) (by decide) rfl ?_
  intro p e s m args below meth c s₁ B hml hv
  obtain ⟨rfl, hP, hK⟩ := hv
  have hx := B.exec
  have hb := B.bytes
  have hr := B.returns
  have hts := atoms_spec (ws := wsX1_levelStand) B.pre
  have hown : s.vm.findClass RX1 = some m.cls := findClass_of_methodNamed B.named
  have hlocks := B.notSynchronized
  have hl := lv_entry ([.ref k0, .int (nI g)]) (n := 4) (Nat.le_of_ble_eq_true rfl)
  rw [lg_entry_eq]
  generalize (lg_sl ([.ref k0, .int (nI g)]) ++ List.replicate (4 - (lg_sl ([.ref k0, .int (nI g)])).length) Slot.unset).toArray = ls at hl ⊢
  have hl : lv_has ls 4 [(0, .ref k0), (1, .int (nI g))] := hl
  have hinRX1 : ∀ w ∈ wsX10, w ∈ wsX1_levelStand := by decide +kernel
  have hf_17 := hts (.fieldLink RX1 17 "HarbourBoardModel" "sizes" "[I") (by decide +kernel)
  have hf_24 := hts (.fieldLink RX1 24 "HarbourBoardModel" "isSet" "[Z") (by decide +kernel)
  have h1 := hsz (2 * g)
  refine lv_aload_n hx hb dX1_levelStand_0 rfl (lv_at hl 0 rfl) ?_
  refine lv_iconst (v := nI 2) hx hb dX1_levelStand_1 (by decide) ?_
  refine lv_iload_n hx hb dX1_levelStand_2 rfl (lv_at hl 1 rfl) ?_
  refine kn_imul hx hb dX1_levelStand_3 ?_
  refine lv_iconst (v := nI 3) hx hb dX1_levelStand_4 (by decide) ?_
  refine lv_iload_n hx hb dX1_levelStand_5 rfl (lv_at hl 1 rfl) ?_
  refine kn_imul hx hb dX1_levelStand_6 ?_
  refine rd_calli (va_runV (As := [.int (nI (2 * g)), .int (nI (3 * g))]) (rest := []) ⟨hx, hb, hml, hown, hts⟩ (c_X1_markWay l D k0 kv ko ks km kt kp kb cZ cD cI th mv io sz mk se pv pd op mw hsz (2 * g) (3 * g) (by omega) (by omega)) (cwV 2 hts gX1_levelStand_X1_markWay rfl rfl rfl (by decide +kernel) ⟨Nat.le_of_ble_eq_true rfl, Nat.le_of_ble_eq_true rfl⟩) ⟨fun a U g mk q => ⟨q.1, q.2.1, va_K.moved (u := U) (U := U.calling g mk a) (Vm.Alike.refl U.vm) q.2.2⟩, va_recv hK hP (ci := 2) (q0 := 0) rfl rfl, fun U hU hW => ⟨rfl, by rw [hU]; exact hP, va_K.moved hW.alike hK⟩⟩ rfl rfl hl.1 rfl (lv_room (Nat.le_of_ble_eq_true rfl)) dX1_levelStand_7 ⟨Nat.le_of_ble_eq_true rfl, Nat.le_of_ble_eq_true rfl⟩) (fun r_1 hr_1 => ?_)
  subst hr_1
  refine lv_istore_n (lv' := [(2, .int (nI (wy (lo io sz (2 * g) || !se (3 * g)) (lw mv sz (2 * g)) (mk (3 * g))))), (0, .ref k0), (1, .int (nI g))]) hx hb dX1_levelStand_10 rfl hl (by decide) rfl (fun ls hl => ?_)
  refine lv_aload_n hx hb dX1_levelStand_11 rfl (lv_at hl 1 rfl) ?_
  refine lv_iconst (v := nI 2) hx hb dX1_levelStand_12 (by decide) ?_
  refine lv_iload_n hx hb dX1_levelStand_13 rfl (lv_at hl 2 rfl) ?_
  refine kn_imul hx hb dX1_levelStand_14 ?_
  refine lv_iconst (v := nI 3) hx hb dX1_levelStand_15 (by decide) ?_
  refine lv_iload_n hx hb dX1_levelStand_16 rfl (lv_at hl 2 rfl) ?_
  refine kn_imul hx hb dX1_levelStand_17 ?_
  refine lv_iconst (v := nI 1) hx hb dX1_levelStand_18 (by decide) ?_
  refine kn_iadd hx hb dX1_levelStand_19 ?_
  refine rd_calli (va_runV (As := [.int (nI (2 * g)), .int (nI ((3 * g) + 1))]) (rest := []) ⟨hx, hb, hml, hown, hts⟩ (c_X1_markWay l D k0 kv ko ks km kt kp kb cZ cD cI th mv io sz mk se pv pd op mw hsz (2 * g) ((3 * g) + 1) (by omega) (by omega)) (cwV 2 hts gX1_levelStand_X1_markWay rfl rfl rfl (by decide +kernel) ⟨Nat.le_of_ble_eq_true rfl, Nat.le_of_ble_eq_true rfl⟩) ⟨fun a U g mk q => ⟨q.1, q.2.1, va_K.moved (u := U) (U := U.calling g mk a) (Vm.Alike.refl U.vm) q.2.2⟩, va_recv hK hP (ci := 2) (q0 := 0) rfl rfl, fun U hU hW => ⟨rfl, by rw [hU]; exact hP, va_K.moved hW.alike hK⟩⟩ rfl rfl hl.1 rfl (lv_room (Nat.le_of_ble_eq_true rfl)) dX1_levelStand_20 ⟨Nat.le_of_ble_eq_true rfl, Nat.le_of_ble_eq_true rfl⟩) (fun r_2 hr_2 => ?_)
  subst hr_2
  refine lv_istore_n (lv' := [(3, .int (nI (wy (lo io sz (2 * g) || !se ((3 * g) + 1)) (lw mv sz (2 * g)) (mk ((3 * g) + 1))))), (2, .int (nI (wy (lo io sz (2 * g) || !se (3 * g)) (lw mv sz (2 * g)) (mk (3 * g))))), (0, .ref k0), (1, .int (nI g))]) hx hb dX1_levelStand_23 rfl hl (by decide) rfl (fun ls hl => ?_)
  refine lv_aload_n hx hb dX1_levelStand_24 rfl (lv_at hl 2 rfl) ?_
  refine va_get (D := D) (ci := 2) (v := .ref ks) (C := RX1) (T := TX1) (N := 10) hx hb hts hinRX1 hown hK hP 0 rfl rfl 3 (by decide) hf_17 (fun _ h9 => h9) rfl dX1_levelStand_25 ?_
  refine lv_iconst (v := nI 2) hx hb dX1_levelStand_28 (by decide) ?_
  refine lv_iload_n hx hb dX1_levelStand_29 rfl (lv_at hl 3 rfl) ?_
  refine kn_imul hx hb dX1_levelStand_30 ?_
  refine kn_iald hx hb hK hP 3 2 rfl rfl (by omega) (by decide) dX1_levelStand_31 ?_
  refine kn_ne (tgt := 37) hx hb (by omega) dX1_levelStand_32 (by decide) (fun c_4 => ?_) (fun c_4 => ?_)
  · refine lv_aload_n hx hb dX1_levelStand_37 rfl (lv_at hl 2 rfl) ?_
    refine lv_iconst (v := nI 2) hx hb dX1_levelStand_38 (by decide) ?_
    refine lv_iload_n hx hb dX1_levelStand_39 rfl (lv_at hl 3 rfl) ?_
    refine kn_imul hx hb dX1_levelStand_40 ?_
    refine rd_calli (va_runV (As := [.int (nI (2 * g))]) (rest := []) ⟨hx, hb, hml, hown, hts⟩ (c_X1_latestOut l D k0 kv ko ks km kt kp kb cZ cD cI th mv io sz mk se pv pd op mw hsz (2 * g) (by omega)) (cwV 1 hts gX1_levelStand_X1_latestOut rfl rfl rfl (by decide +kernel) ⟨Nat.le_of_ble_eq_true rfl, Nat.le_of_ble_eq_true rfl⟩) ⟨fun a U g mk q => ⟨q.1, q.2.1, va_K.moved (u := U) (U := U.calling g mk a) (Vm.Alike.refl U.vm) q.2.2⟩, va_recv hK hP (ci := 2) (q0 := 0) rfl rfl, fun U hU hW => ⟨rfl, by rw [hU]; exact hP, va_K.moved hW.alike hK⟩⟩ rfl rfl hl.1 rfl (lv_room (Nat.le_of_ble_eq_true rfl)) dX1_levelStand_41 ⟨Nat.le_of_ble_eq_true rfl, Nat.le_of_ble_eq_true rfl⟩) (fun r_5 hr_5 => ?_)
    subst hr_5
    refine kb_eq (tgt := 49) hx hb dX1_levelStand_44 (by decide) (fun c_6 => ?_) (fun c_6 => ?_)
    · refine lv_iload_n hx hb dX1_levelStand_49 rfl (lv_at hl 1 rfl) ?_
      refine lv_iconst (v := nI 1) hx hb dX1_levelStand_50 (by decide) ?_
      refine kn_icmp_ne (tgt := 56) hx hb (Nat.lt_trans (wy_lt _ _ _) (by decide)) (by decide) dX1_levelStand_51 (by decide) (fun c_7 => ?_) (fun c_7 => ?_)
      · refine lv_iload_n hx hb dX1_levelStand_56 rfl (lv_at hl 0 rfl) ?_
        refine lv_iconst (v := nI 4) hx hb dX1_levelStand_57 (by decide) ?_
        refine kn_icmp_ne (tgt := 63) hx hb (Nat.lt_trans (wy_lt _ _ _) (by decide)) (by decide) dX1_levelStand_58 (by decide) (fun c_8 => ?_) (fun c_8 => ?_)
        · refine lv_iload_n hx hb dX1_levelStand_63 rfl (lv_at hl 1 rfl) ?_
          refine lv_iconst (v := nI 2) hx hb dX1_levelStand_64 (by decide) ?_
          refine kn_icmp_eq (tgt := 73) hx hb (Nat.lt_trans (wy_lt _ _ _) (by decide)) (by decide) dX1_levelStand_65 (by decide) (fun c_9 => ?_) (fun c_9 => ?_)
          · refine lv_iconst (v := nI 4) hx hb dX1_levelStand_73 (by decide) ?_
            exact W.iret (v := nI 4) hx hb hr (fun t9 ht9 hW9 => ⟨⟨_, rfl, congrArg nI (show 4 = slM io mv sz mk se g from by unfold slM; rw [if_neg c_4, if_neg (by rw [c_6]; decide), if_neg c_7, if_neg c_8, if_pos (Or.inl c_9)])⟩, ht9⟩) (fun q hq => absurd hq List.not_mem_nil) dX1_levelStand_74
          · refine lv_iload_n hx hb dX1_levelStand_68 rfl (lv_at hl 0 rfl) ?_
            refine lv_iconst (v := nI 2) hx hb dX1_levelStand_69 (by decide) ?_
            refine kn_icmp_ne (tgt := 75) hx hb (Nat.lt_trans (wy_lt _ _ _) (by decide)) (by decide) dX1_levelStand_70 (by decide) (fun c_10 => ?_) (fun c_10 => ?_)
            · refine lv_aload_n hx hb dX1_levelStand_75 rfl (lv_at hl 2 rfl) ?_
              refine va_get (D := D) (ci := 2) (v := .ref kt) (C := RX1) (T := TX1) (N := 10) hx hb hts hinRX1 hown hK hP 0 rfl rfl 5 (by decide) hf_24 (fun _ h9 => h9) rfl dX1_levelStand_76 ?_
              refine lv_iconst (v := nI 3) hx hb dX1_levelStand_79 (by decide) ?_
              refine lv_iload_n hx hb dX1_levelStand_80 rfl (lv_at hl 3 rfl) ?_
              refine kn_imul hx hb dX1_levelStand_81 ?_
              refine kn_zald hx hb hK hP 5 0 rfl rfl (by omega) (by decide) dX1_levelStand_82 ?_
              refine kb_ne (tgt := 103) hx hb dX1_levelStand_83 (by decide) (fun c_11 => ?_) (fun c_11 => ?_)
              · refine lv_bipush (v := nI 6) hx hb dX1_levelStand_103 (by decide) ?_
                exact W.iret (v := nI 6) hx hb hr (fun t9 ht9 hW9 => ⟨⟨_, rfl, congrArg nI (show 6 = slM io mv sz mk se g from by unfold slM; rw [if_neg c_4, if_neg (by rw [c_6]; decide), if_neg c_7, if_neg c_8, if_neg (fun q => q.elim c_9 c_10), if_neg (fun q => absurd (q.1.symm.trans c_11) (by decide))])⟩, ht9⟩) (fun q hq => absurd hq List.not_mem_nil) dX1_levelStand_105
              · refine lv_aload_n hx hb dX1_levelStand_86 rfl (lv_at hl 2 rfl) ?_
                refine va_get (D := D) (ci := 2) (v := .ref kt) (C := RX1) (T := TX1) (N := 10) hx hb hts hinRX1 hown hK hP 0 rfl rfl 5 (by decide) hf_24 (fun _ h9 => h9) rfl dX1_levelStand_87 ?_
                refine lv_iconst (v := nI 3) hx hb dX1_levelStand_90 (by decide) ?_
                refine lv_iload_n hx hb dX1_levelStand_91 rfl (lv_at hl 3 rfl) ?_
                refine kn_imul hx hb dX1_levelStand_92 ?_
                refine lv_iconst (v := nI 1) hx hb dX1_levelStand_93 (by decide) ?_
                refine kn_iadd hx hb dX1_levelStand_94 ?_
                refine kn_zald hx hb hK hP 5 0 rfl rfl (by omega) (by decide) dX1_levelStand_95 ?_
                refine kb_ne (tgt := 103) hx hb dX1_levelStand_96 (by decide) (fun c_12 => ?_) (fun c_12 => ?_)
                · refine lv_bipush (v := nI 6) hx hb dX1_levelStand_103 (by decide) ?_
                  exact W.iret (v := nI 6) hx hb hr (fun t9 ht9 hW9 => ⟨⟨_, rfl, congrArg nI (show 6 = slM io mv sz mk se g from by unfold slM; rw [if_neg c_4, if_neg (by rw [c_6]; decide), if_neg c_7, if_neg c_8, if_neg (fun q => q.elim c_9 c_10), if_neg (fun q => absurd (q.2.symm.trans c_12) (by decide))])⟩, ht9⟩) (fun q hq => absurd hq List.not_mem_nil) dX1_levelStand_105
                · refine lv_iconst (v := nI 5) hx hb dX1_levelStand_99 (by decide) ?_
                  refine lv_goto (tgt := 105) hx hb dX1_levelStand_100 (by decide) ?_
                  exact W.iret (v := nI 5) hx hb hr (fun t9 ht9 hW9 => ⟨⟨_, rfl, congrArg nI (show 5 = slM io mv sz mk se g from by unfold slM; rw [if_neg c_4, if_neg (by rw [c_6]; decide), if_neg c_7, if_neg c_8, if_neg (fun q => q.elim c_9 c_10), if_pos ⟨c_11, c_12⟩])⟩, ht9⟩) (fun q hq => absurd hq List.not_mem_nil) dX1_levelStand_105
            · refine lv_iconst (v := nI 4) hx hb dX1_levelStand_73 (by decide) ?_
              exact W.iret (v := nI 4) hx hb hr (fun t9 ht9 hW9 => ⟨⟨_, rfl, congrArg nI (show 4 = slM io mv sz mk se g from by unfold slM; rw [if_neg c_4, if_neg (by rw [c_6]; decide), if_neg c_7, if_neg c_8, if_pos (Or.inr c_10)])⟩, ht9⟩) (fun q hq => absurd hq List.not_mem_nil) dX1_levelStand_74
        · refine lv_iconst (v := nI 3) hx hb dX1_levelStand_61 (by decide) ?_
          exact W.iret (v := nI 3) hx hb hr (fun t9 ht9 hW9 => ⟨⟨_, rfl, congrArg nI (show 3 = slM io mv sz mk se g from by unfold slM; rw [if_neg c_4, if_neg (by rw [c_6]; decide), if_neg c_7, if_pos c_8])⟩, ht9⟩) (fun q hq => absurd hq List.not_mem_nil) dX1_levelStand_62
      · refine lv_iconst (v := nI 2) hx hb dX1_levelStand_54 (by decide) ?_
        exact W.iret (v := nI 2) hx hb hr (fun t9 ht9 hW9 => ⟨⟨_, rfl, congrArg nI (show 2 = slM io mv sz mk se g from by unfold slM; rw [if_neg c_4, if_neg (by rw [c_6]; decide), if_pos c_7])⟩, ht9⟩) (fun q hq => absurd hq List.not_mem_nil) dX1_levelStand_55
    · refine lv_iconst (v := nI 1) hx hb dX1_levelStand_47 (by decide) ?_
      exact W.iret (v := nI 1) hx hb hr (fun t9 ht9 hW9 => ⟨⟨_, rfl, congrArg nI (show 1 = slM io mv sz mk se g from by unfold slM; rw [if_neg c_4, if_pos c_6])⟩, ht9⟩) (fun q hq => absurd hq List.not_mem_nil) dX1_levelStand_48
  · refine lv_iconst (v := nI 0) hx hb dX1_levelStand_35 (by decide) ?_
    exact W.iret (v := nI 0) hx hb hr (fun t9 ht9 hW9 => ⟨⟨_, rfl, congrArg nI (show 0 = slM io mv sz mk se g from by unfold slM; rw [if_pos c_4])⟩, ht9⟩) (fun q hq => absurd hq List.not_mem_nil) dX1_levelStand_36
set_option maxHeartbeats 4000000 in
set_option maxRecDepth 100000 in
theorem c_X1_best (l : Launch) (D : va_G) (k0 kv ko ks km kt kp kb : Nat) (cZ cD cI : ClassId) (th : Nat) (mv : Nat → UInt64) (io : Nat → Bool) (sz : Nat → Nat) (mk : Nat → UInt64) (se : Nat → Bool) (pv : Nat → UInt64) (pd : Nat → Bool) (op : Bool) (mw : Int32) (hsz : ∀ j, sz j ≤ 12) (t : Nat) (y : Nat) (ht : t < 12) (hy : y < 2147483648) : Met l yX1_best wsX1_best ({ frames := 1, cells := 0, slots := 0, locals := 24 }) (va_Pc [.ref k0, .int (nI t), .int (nI y)] (fun U => va_P D vwCl (WM k0 kv ko ks km kt kp kb cZ cD cI th mv io sz mk se pv pd op mw) U.heap ∧ va_K D vwCl (TY cZ cD cI) U)) (rd_Qi (fun r => r = o2i (bo io mv t y (sz t)))) 0 0 (fun _ => False) := by
  refine Met.ofW (cc := cX1_best) (maxL := 6) (ret := some .int) (by decide) rfl ?_
  intro p e s m args below meth c s₁ B hml hv
  obtain ⟨rfl, hP, hK⟩ := hv
  have hx := B.exec
  have hb := B.bytes
  have hr := B.returns
  have hts := atoms_spec (ws := wsX1_best) B.pre
  have hown : s.vm.findClass RX1 = some m.cls := findClass_of_methodNamed B.named
  have hlocks := B.notSynchronized
  have hl := lv_entry ([.ref k0, .int (nI t), .int (nI y)]) (n := 6) (Nat.le_of_ble_eq_true rfl)
  rw [lg_entry_eq]
  generalize (lg_sl ([.ref k0, .int (nI t), .int (nI y)]) ++ List.replicate (6 - (lg_sl ([.ref k0, .int (nI t), .int (nI y)])).length) Slot.unset).toArray = ls at hl ⊢
  have hl : lv_has ls 6 [(0, .ref k0), (1, .int (nI t)), (2, .int (nI y))] := hl
  have hinRX1 : ∀ w ∈ wsX10, w ∈ wsX1_best := by decide +kernel
  have hf_17 := hts (.fieldLink RX1 17 "HarbourBoardModel" "sizes" "[I") (by decide +kernel)
  have hf_13 := hts (.fieldLink RX1 13 "HarbourBoardModel" "isOut" "[Z") (by decide +kernel)
  have hf_7 := hts (.fieldLink RX1 7 "HarbourBoardModel" "value" "[D") (by decide +kernel)
  have h1 := hsz t
  refine lv_iconst (v := (-1)) hx hb dX1_best_0 (by decide) ?_
  refine lv_istore_n (lv' := [(3, .int ((-1))), (0, .ref k0), (1, .int (nI t)), (2, .int (nI y))]) hx hb dX1_best_1 rfl hl (by decide) rfl (fun ls hl => ?_)
  refine lv_bipush (v := nI 12) hx hb dX1_best_2 (by decide) ?_
  refine lv_iload_n hx hb dX1_best_4 rfl (lv_at hl 2 rfl) ?_
  refine kn_imul hx hb dX1_best_5 ?_
  refine lv_istore (lv' := [(4, .int (nI (12 * t))), (3, .int ((-1))), (0, .ref k0), (1, .int (nI t)), (2, .int (nI y))]) hx hb dX1_best_6 hl (by decide) rfl (fun ls hl => ?_)
  refine (?_ : ∀ (k_ i : Nat) (ls : Array Slot), i + k_ = sz t → lv_has ls 6 [(0, .ref k0), (1, .int (nI t)), (2, .int (nI y)), (3, .int (o2i (bo io mv t y i))), (4, .int (nI (12 * t + i)))] → W p l e _ s m _ below meth c _ _ _ _ _ (F0 m 8 ls [])) (sz t) 0 ls (by omega) (lv_sub hl [2, 3, 4, 1, 0] rfl)
  clear hl
  intro k_
  induction k_ with
  | zero =>
    intro i ls hi hl
    rcases h_o : bo io mv t y i with _ | pp
    · rw [h_o] at hl
      have hl : lv_has ls 6 [(0, .ref k0), (1, .int (nI t)), (2, .int (nI y)), (3, .int ((-1))), (4, .int (nI (12 * t + i)))] := hl
      refine lv_iload hx hb dX1_best_8 (lv_at hl 4 rfl) ?_
      refine lv_bipush (v := nI 12) hx hb dX1_best_10 (by decide) ?_
      refine lv_iload_n hx hb dX1_best_12 rfl (lv_at hl 1 rfl) ?_
      refine kn_imul hx hb dX1_best_13 ?_
      refine lv_aload_n hx hb dX1_best_14 rfl (lv_at hl 0 rfl) ?_
      refine va_get (D := D) (ci := 2) (v := .ref ks) (C := RX1) (T := TX1) (N := 10) hx hb hts hinRX1 hown hK hP 0 rfl rfl 3 (by decide) hf_17 (fun _ h9 => h9) rfl dX1_best_15 ?_
      refine lv_iload_n hx hb dX1_best_18 rfl (lv_at hl 1 rfl) ?_
      refine kn_iald hx hb hK hP 3 2 rfl rfl (by omega) (by decide) dX1_best_19 ?_
      refine kn_iadd hx hb dX1_best_20 ?_
      refine kn_icmp_ge (tgt := 84) hx hb (by omega) (by omega) dX1_best_21 (by decide) (fun c_x => ?_) (fun h => absurd h (by omega))
      refine lv_iload_n hx hb dX1_best_84 rfl (lv_at hl 3 rfl) ?_
      exact W.iret (v := (-1)) hx hb hr (fun t9 ht9 hW9 => ⟨⟨_, rfl, by rw [← show i = sz t by omega, h_o]; rfl⟩, ht9⟩) (fun q hq => absurd hq List.not_mem_nil) dX1_best_85
    · rw [h_o] at hl
      have hl : lv_has ls 6 [(0, .ref k0), (1, .int (nI t)), (2, .int (nI y)), (3, .int (nI pp)), (4, .int (nI (12 * t + i)))] := hl
      have hpp := bo_lt h_o
      refine lv_iload hx hb dX1_best_8 (lv_at hl 4 rfl) ?_
      refine lv_bipush (v := nI 12) hx hb dX1_best_10 (by decide) ?_
      refine lv_iload_n hx hb dX1_best_12 rfl (lv_at hl 1 rfl) ?_
      refine kn_imul hx hb dX1_best_13 ?_
      refine lv_aload_n hx hb dX1_best_14 rfl (lv_at hl 0 rfl) ?_
      refine va_get (D := D) (ci := 2) (v := .ref ks) (C := RX1) (T := TX1) (N := 10) hx hb hts hinRX1 hown hK hP 0 rfl rfl 3 (by decide) hf_17 (fun _ h9 => h9) rfl dX1_best_15 ?_
      refine lv_iload_n hx hb dX1_best_18 rfl (lv_at hl 1 rfl) ?_
      refine kn_iald hx hb hK hP 3 2 rfl rfl (by omega) (by decide) dX1_best_19 ?_
      refine kn_iadd hx hb dX1_best_20 ?_
      refine kn_icmp_ge (tgt := 84) hx hb (by omega) (by omega) dX1_best_21 (by decide) (fun c_x => ?_) (fun h => absurd h (by omega))
      refine lv_iload_n hx hb dX1_best_84 rfl (lv_at hl 3 rfl) ?_
      exact W.iret (v := nI pp) hx hb hr (fun t9 ht9 hW9 => ⟨⟨_, rfl, by rw [← show i = sz t by omega, h_o]; rfl⟩, ht9⟩) (fun q hq => absurd hq List.not_mem_nil) dX1_best_85
  | succ k_ ih =>
    intro i ls hi hl
    rcases h_o : bo io mv t y i with _ | pp
    · rw [h_o] at hl
      have hl : lv_has ls 6 [(0, .ref k0), (1, .int (nI t)), (2, .int (nI y)), (3, .int ((-1))), (4, .int (nI (12 * t + i)))] := hl
      refine lv_iload hx hb dX1_best_8 (lv_at hl 4 rfl) ?_
      refine lv_bipush (v := nI 12) hx hb dX1_best_10 (by decide) ?_
      refine lv_iload_n hx hb dX1_best_12 rfl (lv_at hl 1 rfl) ?_
      refine kn_imul hx hb dX1_best_13 ?_
      refine lv_aload_n hx hb dX1_best_14 rfl (lv_at hl 0 rfl) ?_
      refine va_get (D := D) (ci := 2) (v := .ref ks) (C := RX1) (T := TX1) (N := 10) hx hb hts hinRX1 hown hK hP 0 rfl rfl 3 (by decide) hf_17 (fun _ h9 => h9) rfl dX1_best_15 ?_
      refine lv_iload_n hx hb dX1_best_18 rfl (lv_at hl 1 rfl) ?_
      refine kn_iald hx hb hK hP 3 2 rfl rfl (by omega) (by decide) dX1_best_19 ?_
      refine kn_iadd hx hb dX1_best_20 ?_
      refine kn_icmp_ge (tgt := 84) hx hb (by omega) (by omega) dX1_best_21 (by decide) (fun h => absurd h (by omega)) (fun c_x => ?_)
      refine lv_aload_n hx hb dX1_best_24 rfl (lv_at hl 0 rfl) ?_
      refine va_get (D := D) (ci := 2) (v := .ref ko) (C := RX1) (T := TX1) (N := 10) hx hb hts hinRX1 hown hK hP 0 rfl rfl 2 (by decide) hf_13 (fun _ h9 => h9) rfl dX1_best_25 ?_
      refine lv_iload hx hb dX1_best_28 (lv_at hl 4 rfl) ?_
      refine kn_zald hx hb hK hP 2 0 rfl rfl (by omega) (by decide) dX1_best_30 ?_
      refine kb_ne (tgt := 63) hx hb dX1_best_31 (by decide) (fun c_1 => ?_) (fun c_1 => ?_)
      · refine lv_iconst (v := nI 0) hx hb dX1_best_63 (by decide) ?_
        refine lv_istore (lv' := [(5, .int (nI 0)), (0, .ref k0), (1, .int (nI t)), (2, .int (nI y)), (3, .int ((-1))), (4, .int (nI (12 * t + i)))]) hx hb dX1_best_64 hl (by decide) rfl (fun ls hl => ?_)
        refine lv_iload hx hb dX1_best_66 (lv_at hl 0 rfl) ?_
        refine kn_eq (tgt := 76) hx hb (by decide) dX1_best_68 (by decide) (fun _ => ?_) (fun h => absurd h (by decide))
        refine lv_iload_n hx hb dX1_best_76 rfl (lv_at hl 4 rfl) ?_
        refine lv_istore_n (lv' := [(3, .int ((-1))), (5, .int (nI 0)), (0, .ref k0), (1, .int (nI t)), (2, .int (nI y)), (4, .int (nI (12 * t + i)))]) hx hb dX1_best_77 rfl hl (by decide) rfl (fun ls hl => ?_)
        refine lv_iinc (v := nI (12 * t + i + 1)) (lv' := [(4, .int (nI (12 * t + i + 1))), (3, .int ((-1))), (5, .int (nI 0)), (0, .ref k0), (1, .int (nI t)), (2, .int (nI y))]) hx hb dX1_best_78 hl (k := 5) rfl (nI_add (12 * t + i) 1) (by decide) rfl (fun ls hl => ?_)
        refine lv_goto (tgt := 8) hx hb dX1_best_81 (by decide) ?_
        have e_1 : bo io mv t y (i + 1) = none := by simp [bo, h_o, c_1]
        exact ih (i + 1) ls (by omega) (by rw [e_1]; exact lv_sub hl [3, 4, 5, 1, 0] rfl)
      · refine lv_iload_n hx hb dX1_best_34 rfl (lv_at hl 3 rfl) ?_
        refine lv_if_lt (tgt := 59) hx hb dX1_best_35 (by decide) (fun c_x => ?_) (fun h => absurd (by decide) h)
        refine lv_iconst (v := nI 1) hx hb dX1_best_59 (by decide) ?_
        refine lv_goto (tgt := 64) hx hb dX1_best_60 (by decide) ?_
        refine lv_istore (lv' := [(5, .int (nI 1)), (0, .ref k0), (1, .int (nI t)), (2, .int (nI y)), (3, .int ((-1))), (4, .int (nI (12 * t + i)))]) hx hb dX1_best_64 hl (by decide) rfl (fun ls hl => ?_)
        refine lv_iload hx hb dX1_best_66 (lv_at hl 0 rfl) ?_
        refine kn_eq (tgt := 76) hx hb (by decide) dX1_best_68 (by decide) (fun h => absurd h (by decide)) (fun _ => ?_)
        refine lv_iload hx hb dX1_best_71 (lv_at hl 5 rfl) ?_
        refine lv_goto (tgt := 77) hx hb dX1_best_73 (by decide) ?_
        refine lv_istore_n (lv' := [(3, .int (nI (12 * t + i))), (5, .int (nI 1)), (0, .ref k0), (1, .int (nI t)), (2, .int (nI y)), (4, .int (nI (12 * t + i)))]) hx hb dX1_best_77 rfl hl (by decide) rfl (fun ls hl => ?_)
        refine lv_iinc (v := nI (12 * t + i + 1)) (lv' := [(4, .int (nI (12 * t + i + 1))), (3, .int (nI (12 * t + i))), (5, .int (nI 1)), (0, .ref k0), (1, .int (nI t)), (2, .int (nI y))]) hx hb dX1_best_78 hl (k := 5) rfl (nI_add (12 * t + i) 1) (by decide) rfl (fun ls hl => ?_)
        refine lv_goto (tgt := 8) hx hb dX1_best_81 (by decide) ?_
        have e_1 : bo io mv t y (i + 1) = some (12 * t + i) := by simp [bo, h_o, c_1]
        exact ih (i + 1) ls (by omega) (by rw [e_1]; exact lv_sub hl [3, 4, 5, 1, 0] rfl)
    · rw [h_o] at hl
      have hl : lv_has ls 6 [(0, .ref k0), (1, .int (nI t)), (2, .int (nI y)), (3, .int (nI pp)), (4, .int (nI (12 * t + i)))] := hl
      have hpp := bo_lt h_o
      refine lv_iload hx hb dX1_best_8 (lv_at hl 4 rfl) ?_
      refine lv_bipush (v := nI 12) hx hb dX1_best_10 (by decide) ?_
      refine lv_iload_n hx hb dX1_best_12 rfl (lv_at hl 1 rfl) ?_
      refine kn_imul hx hb dX1_best_13 ?_
      refine lv_aload_n hx hb dX1_best_14 rfl (lv_at hl 0 rfl) ?_
      refine va_get (D := D) (ci := 2) (v := .ref ks) (C := RX1) (T := TX1) (N := 10) hx hb hts hinRX1 hown hK hP 0 rfl rfl 3 (by decide) hf_17 (fun _ h9 => h9) rfl dX1_best_15 ?_
      refine lv_iload_n hx hb dX1_best_18 rfl (lv_at hl 1 rfl) ?_
      refine kn_iald hx hb hK hP 3 2 rfl rfl (by omega) (by decide) dX1_best_19 ?_
      refine kn_iadd hx hb dX1_best_20 ?_
      refine kn_icmp_ge (tgt := 84) hx hb (by omega) (by omega) dX1_best_21 (by decide) (fun h => absurd h (by omega)) (fun c_x => ?_)
      refine lv_aload_n hx hb dX1_best_24 rfl (lv_at hl 0 rfl) ?_
      refine va_get (D := D) (ci := 2) (v := .ref ko) (C := RX1) (T := TX1) (N := 10) hx hb hts hinRX1 hown hK hP 0 rfl rfl 2 (by decide) hf_13 (fun _ h9 => h9) rfl dX1_best_25 ?_
      refine lv_iload hx hb dX1_best_28 (lv_at hl 4 rfl) ?_
      refine kn_zald hx hb hK hP 2 0 rfl rfl (by omega) (by decide) dX1_best_30 ?_
      refine kb_ne (tgt := 63) hx hb dX1_best_31 (by decide) (fun c_2 => ?_) (fun c_2 => ?_)
      · refine lv_iconst (v := nI 0) hx hb dX1_best_63 (by decide) ?_
        refine lv_istore (lv' := [(5, .int (nI 0)), (0, .ref k0), (1, .int (nI t)), (2, .int (nI y)), (3, .int (nI pp)), (4, .int (nI (12 * t + i)))]) hx hb dX1_best_64 hl (by decide) rfl (fun ls hl => ?_)
        refine lv_iload hx hb dX1_best_66 (lv_at hl 0 rfl) ?_
        refine kn_eq (tgt := 76) hx hb (by decide) dX1_best_68 (by decide) (fun _ => ?_) (fun h => absurd h (by decide))
        refine lv_iload_n hx hb dX1_best_76 rfl (lv_at hl 4 rfl) ?_
        refine lv_istore_n (lv' := [(3, .int (nI pp)), (5, .int (nI 0)), (0, .ref k0), (1, .int (nI t)), (2, .int (nI y)), (4, .int (nI (12 * t + i)))]) hx hb dX1_best_77 rfl hl (by decide) rfl (fun ls hl => ?_)
        refine lv_iinc (v := nI (12 * t + i + 1)) (lv' := [(4, .int (nI (12 * t + i + 1))), (3, .int (nI pp)), (5, .int (nI 0)), (0, .ref k0), (1, .int (nI t)), (2, .int (nI y))]) hx hb dX1_best_78 hl (k := 5) rfl (nI_add (12 * t + i) 1) (by decide) rfl (fun ls hl => ?_)
        refine lv_goto (tgt := 8) hx hb dX1_best_81 (by decide) ?_
        have e_1 : bo io mv t y (i + 1) = some (pp) := by simp [bo, h_o, c_2]
        exact ih (i + 1) ls (by omega) (by rw [e_1]; exact lv_sub hl [3, 4, 5, 1, 0] rfl)
      · refine lv_iload_n hx hb dX1_best_34 rfl (lv_at hl 3 rfl) ?_
        refine kn_iflt (tgt := 59) hx hb (by omega) dX1_best_35 (by decide) ?_
        refine lv_iconst (v := nI 0) hx hb dX1_best_38 (by decide) ?_
        refine lv_aload_n hx hb dX1_best_39 rfl (lv_at hl 0 rfl) ?_
        refine va_get (D := D) (ci := 2) (v := .ref kv) (C := RX1) (T := TX1) (N := 10) hx hb hts hinRX1 hown hK hP 0 rfl rfl 1 (by decide) hf_7 (fun _ h9 => h9) rfl dX1_best_40 ?_
        refine lv_iload hx hb dX1_best_43 (lv_at hl 4 rfl) ?_
        refine kn_dald hx hb hK hP 1 1 rfl rfl (by omega) (by decide) dX1_best_45 ?_
        refine lv_aload_n hx hb dX1_best_46 rfl (lv_at hl 0 rfl) ?_
        refine va_get (D := D) (ci := 2) (v := .ref kv) (C := RX1) (T := TX1) (N := 10) hx hb hts hinRX1 hown hK hP 0 rfl rfl 1 (by decide) hf_7 (fun _ h9 => h9) rfl dX1_best_47 ?_
        refine lv_iload_n hx hb dX1_best_50 rfl (lv_at hl 3 rfl) ?_
        refine kn_dald hx hb hK hP 1 1 rfl rfl (by omega) (by decide) dX1_best_51 ?_
        refine rd_calli (va_runS (As := [.int (b2i false), .double (mv (12 * t + i)), .double (mv pp)]) (rest := []) ⟨hx, hb, hml, hown, hts⟩ (c_X1_way l false (mv (12 * t + i)) (mv pp) ) (va_cwS 3 hts gX1_best_X1_way rfl rfl rfl (by decide +kernel) ⟨Nat.le_of_ble_eq_true rfl, Nat.le_of_ble_eq_true rfl⟩) ⟨fun a U g mk q => q, fun U hU hW => ⟨rfl, trivial⟩⟩ rfl rfl hl.1 rfl (lv_room (Nat.le_of_ble_eq_true rfl)) dX1_best_52 ⟨Nat.le_of_ble_eq_true rfl, Nat.le_of_ble_eq_true rfl⟩) (fun r_3 hr_3 => ?_)
        subst hr_3
        refine lv_iload_n hx hb dX1_best_55 rfl (lv_at hl 2 rfl) ?_
        refine kn_icmp_ne (tgt := 63) hx hb (Nat.lt_trans (wy_lt _ _ _) (by decide)) (by omega) dX1_best_56 (by decide) (fun c_4 => ?_) (fun c_4 => ?_)
        · refine lv_iconst (v := nI 0) hx hb dX1_best_63 (by decide) ?_
          refine lv_istore (lv' := [(5, .int (nI 0)), (0, .ref k0), (1, .int (nI t)), (2, .int (nI y)), (3, .int (nI pp)), (4, .int (nI (12 * t + i)))]) hx hb dX1_best_64 hl (by decide) rfl (fun ls hl => ?_)
          refine lv_iload hx hb dX1_best_66 (lv_at hl 0 rfl) ?_
          refine kn_eq (tgt := 76) hx hb (by decide) dX1_best_68 (by decide) (fun _ => ?_) (fun h => absurd h (by decide))
          refine lv_iload_n hx hb dX1_best_76 rfl (lv_at hl 4 rfl) ?_
          refine lv_istore_n (lv' := [(3, .int (nI pp)), (5, .int (nI 0)), (0, .ref k0), (1, .int (nI t)), (2, .int (nI y)), (4, .int (nI (12 * t + i)))]) hx hb dX1_best_77 rfl hl (by decide) rfl (fun ls hl => ?_)
          refine lv_iinc (v := nI (12 * t + i + 1)) (lv' := [(4, .int (nI (12 * t + i + 1))), (3, .int (nI pp)), (5, .int (nI 0)), (0, .ref k0), (1, .int (nI t)), (2, .int (nI y))]) hx hb dX1_best_78 hl (k := 5) rfl (nI_add (12 * t + i) 1) (by decide) rfl (fun ls hl => ?_)
          refine lv_goto (tgt := 8) hx hb dX1_best_81 (by decide) ?_
          have e_1 : bo io mv t y (i + 1) = some (pp) := by simp [bo, h_o, c_2, c_4]
          exact ih (i + 1) ls (by omega) (by rw [e_1]; exact lv_sub hl [3, 4, 5, 1, 0] rfl)
        · refine lv_iconst (v := nI 1) hx hb dX1_best_59 (by decide) ?_
          refine lv_goto (tgt := 64) hx hb dX1_best_60 (by decide) ?_
          refine lv_istore (lv' := [(5, .int (nI 1)), (0, .ref k0), (1, .int (nI t)), (2, .int (nI y)), (3, .int (nI pp)), (4, .int (nI (12 * t + i)))]) hx hb dX1_best_64 hl (by decide) rfl (fun ls hl => ?_)
          refine lv_iload hx hb dX1_best_66 (lv_at hl 0 rfl) ?_
          refine kn_eq (tgt := 76) hx hb (by decide) dX1_best_68 (by decide) (fun h => absurd h (by decide)) (fun _ => ?_)
          refine lv_iload hx hb dX1_best_71 (lv_at hl 5 rfl) ?_
          refine lv_goto (tgt := 77) hx hb dX1_best_73 (by decide) ?_
          refine lv_istore_n (lv' := [(3, .int (nI (12 * t + i))), (5, .int (nI 1)), (0, .ref k0), (1, .int (nI t)), (2, .int (nI y)), (4, .int (nI (12 * t + i)))]) hx hb dX1_best_77 rfl hl (by decide) rfl (fun ls hl => ?_)
          refine lv_iinc (v := nI (12 * t + i + 1)) (lv' := [(4, .int (nI (12 * t + i + 1))), (3, .int (nI (12 * t + i))), (5, .int (nI 1)), (0, .ref k0), (1, .int (nI t)), (2, .int (nI y))]) hx hb dX1_best_78 hl (k := 5) rfl (nI_add (12 * t + i) 1) (by decide) rfl (fun ls hl => ?_)
          refine lv_goto (tgt := 8) hx hb dX1_best_81 (by decide) ?_
          have e_1 : bo io mv t y (i + 1) = some (12 * t + i) := by simp [bo, h_o, c_2, c_4]
          exact ih (i + 1) ls (by omega) (by rw [e_1]; exact lv_sub hl [3, 4, 5, 1, 0] rfl)
set_option maxHeartbeats 4000000 in
set_option maxRecDepth 100000 in
theorem c_X1_throwing (l : Launch) (D : va_G) (k0 kv ko ks km kt kp kb : Nat) (cZ cD cI : ClassId) (th : Nat) (mv : Nat → UInt64) (io : Nat → Bool) (sz : Nat → Nat) (mk : Nat → UInt64) (se : Nat → Bool) (pv : Nat → UInt64) (pd : Nat → Bool) (op : Bool) (mw : Int32) (hsz : ∀ j, sz j ≤ 12) (zz : Nat) (b1 : Bool) (b2 : Bool) (b3 : Bool) : Met l yX1_throwing wsX1_throwing ({ frames := 0, cells := 0, slots := 0, locals := 0 }) (va_Pc [.ref k0, .int (b2i b1), .int (b2i b2), .int (b2i b3)] (fun U => U.heap.size = zz ∧ va_P D vwCl (WM k0 kv ko ks km kt kp kb cZ cD cI th mv io sz mk se pv pd op mw) U.heap ∧ va_K D vwCl (TY cZ cD cI) U ∧ va_D (fun _ => True) (WM k0 kv ko ks km kt kp kb cZ cD cI th mv io sz mk se pv pd op mw))) (wr_Qi (fun r => r = b2i (b1 || b2 || b3)) (fun H => va_P D vwCl (WM k0 kv ko ks km kt kp kb cZ cD cI (thr b1 b2 b3) mv io sz mk se pv pd op mw) H) (va_A (WM k0 kv ko ks km kt kp kb cZ cD cI th mv io sz mk se pv pd op mw) zz))  0 0 (va_A (WM k0 kv ko ks km kt kp kb cZ cD cI th mv io sz mk se pv pd op mw) zz) := by
  refine Met.ofW (cc := cX1_throwing) (maxL := 4) (ret := some .boolean) (by decide) rfl ?_
  intro p e s m args below meth c s₁ B hml hv
  obtain ⟨rfl, hsz_, hP, hK, hD0⟩ := hv
  have hx := B.exec
  have hb := B.bytes
  have hr := B.returns
  have hts := atoms_spec (ws := wsX1_throwing) B.pre
  have hown : s.vm.findClass RX1 = some m.cls := findClass_of_methodNamed B.named
  have hlocks := B.notSynchronized
  subst hsz_
  have hD := hD0.self (sz := s.heap.size)
  generalize hAe : va_A (WM k0 kv ko ks km kt kp kb cZ cD cI th mv io sz mk se pv pd op mw) s.heap.size = A at hD ⊢
  have hA : ∀ q : Nat, s.heap.size ≤ q → A q := fun q h => by rw [← hAe]; exact Or.inr h
  have hS : va_S A s.heap s.heap [] := va_S.rf
  have hl := lv_entry ([.ref k0, .int (b2i b1), .int (b2i b2), .int (b2i b3)]) (n := 4) (Nat.le_of_ble_eq_true rfl)
  rw [lg_entry_eq]
  generalize (lg_sl ([.ref k0, .int (b2i b1), .int (b2i b2), .int (b2i b3)]) ++ List.replicate (4 - (lg_sl ([.ref k0, .int (b2i b1), .int (b2i b2), .int (b2i b3)])).length) Slot.unset).toArray = ls at hl ⊢
  have hl : lv_has ls 4 [(0, .ref k0), (1, .int (b2i b1)), (2, .int (b2i b2)), (3, .int (b2i b3))] := hl
  have hinRX1 : ∀ w ∈ wsX10, w ∈ wsX1_throwing := by decide +kernel
  have hf_33 := hts (.fieldLink RX1 33 "HarbourBoardModel" "thrown" "I") (by decide +kernel)
  refine lv_aload_n hx hb dX1_throwing_0 rfl (lv_at hl 0 rfl) ?_
  refine lv_iload_n hx hb dX1_throwing_1 rfl (lv_at hl 1 rfl) ?_
  refine kb_eq (tgt := 9) hx hb dX1_throwing_2 (by decide) (fun c_1 => ?_) (fun c_1 => ?_)
  · refine lv_iload_n hx hb dX1_throwing_9 rfl (lv_at hl 2 rfl) ?_
    refine kb_eq (tgt := 17) hx hb dX1_throwing_10 (by decide) (fun c_2 => ?_) (fun c_2 => ?_)
    · refine lv_iload_n hx hb dX1_throwing_17 rfl (lv_at hl 3 rfl) ?_
      refine kb_eq (tgt := 25) hx hb dX1_throwing_18 (by decide) (fun c_3 => ?_) (fun c_3 => ?_)
      · refine lv_iconst (v := nI 0) hx hb dX1_throwing_25 (by decide) ?_
        refine va_put (D := D) (ci := 2) (v := .int (nI 0)) (ty := .int) (C := RX1) (T := TX1) (N := 10) hx hb hts hinRX1 tyX1 tyX1_ok nmX1 hown hK hP hD hS 0 rfl rfl 0 (by decide) hf_33 (fun _ h9 => h9) rfl (by decide +kernel) rfl rfl (Nat.le_of_ble_eq_true rfl) dX1_throwing_26 (fun H locs hP hD hS => ?_)
        have hP : va_P D vwCl (WM k0 kv ko ks km kt kp kb cZ cD cI 0 mv io sz mk se pv pd op mw) H := hP
        have hD : va_D A (WM k0 kv ko ks km kt kp kb cZ cD cI 0 mv io sz mk se pv pd op mw) := hD
        refine lv_aload_n hx hb dX1_throwing_29 rfl (lv_at hl 0 rfl) ?_
        refine va_get (D := D) (ci := 2) (v := .int (nI 0)) (C := RX1) (T := TX1) (N := 10) hx hb hts hinRX1 hown hK hP 0 rfl rfl 0 (by decide) hf_33 (fun _ h9 => h9) rfl dX1_throwing_30 ?_
        refine kn_ifle (tgt := 40) hx hb (by decide) dX1_throwing_33 (by decide) (fun _ => ?_) (fun h => absurd h (by decide))
        refine lv_iconst (v := nI 0) hx hb dX1_throwing_40 (by decide) ?_
        refine kt_i (y := b2i false) rfl ?_
        refine W.widen (k := 0) (n := 0) (Nat.le_of_ble_eq_true rfl) (Nat.le_of_ble_eq_true rfl) ?_
        exact W.zret (v := b2i false) hx hb hr (b2i_nar _) (fun t9 ht9 hW9 => ⟨⟨_, rfl, congrArg b2i (show false = (b1 || b2 || b3) from by simp [c_1, c_2, c_3]), by rw [ht9, show thr b1 b2 b3 = 0 from by simp [thr, c_1, c_2, c_3]]; exact hP⟩, hS.F ht9⟩) hS.2.2 dX1_throwing_41
      · refine lv_iconst (v := nI 3) hx hb dX1_throwing_21 (by decide) ?_
        refine lv_goto (tgt := 26) hx hb dX1_throwing_22 (by decide) ?_
        refine va_put (D := D) (ci := 2) (v := .int (nI 3)) (ty := .int) (C := RX1) (T := TX1) (N := 10) hx hb hts hinRX1 tyX1 tyX1_ok nmX1 hown hK hP hD hS 0 rfl rfl 0 (by decide) hf_33 (fun _ h9 => h9) rfl (by decide +kernel) rfl rfl (Nat.le_of_ble_eq_true rfl) dX1_throwing_26 (fun H locs hP hD hS => ?_)
        have hP : va_P D vwCl (WM k0 kv ko ks km kt kp kb cZ cD cI 3 mv io sz mk se pv pd op mw) H := hP
        have hD : va_D A (WM k0 kv ko ks km kt kp kb cZ cD cI 3 mv io sz mk se pv pd op mw) := hD
        refine lv_aload_n hx hb dX1_throwing_29 rfl (lv_at hl 0 rfl) ?_
        refine va_get (D := D) (ci := 2) (v := .int (nI 3)) (C := RX1) (T := TX1) (N := 10) hx hb hts hinRX1 hown hK hP 0 rfl rfl 0 (by decide) hf_33 (fun _ h9 => h9) rfl dX1_throwing_30 ?_
        refine kn_ifle (tgt := 40) hx hb (by decide) dX1_throwing_33 (by decide) (fun h => absurd h (by decide)) (fun _ => ?_)
        refine lv_iconst (v := nI 1) hx hb dX1_throwing_36 (by decide) ?_
        refine lv_goto (tgt := 41) hx hb dX1_throwing_37 (by decide) ?_
        refine kt_i (y := b2i true) rfl ?_
        refine W.widen (k := 0) (n := 0) (Nat.le_of_ble_eq_true rfl) (Nat.le_of_ble_eq_true rfl) ?_
        exact W.zret (v := b2i true) hx hb hr (b2i_nar _) (fun t9 ht9 hW9 => ⟨⟨_, rfl, congrArg b2i (show true = (b1 || b2 || b3) from by simp [c_1, c_2, c_3]), by rw [ht9, show thr b1 b2 b3 = 3 from by simp [thr, c_1, c_2, c_3]]; exact hP⟩, hS.F ht9⟩) hS.2.2 dX1_throwing_41
    · refine lv_iconst (v := nI 2) hx hb dX1_throwing_13 (by decide) ?_
      refine lv_goto (tgt := 26) hx hb dX1_throwing_14 (by decide) ?_
      refine va_put (D := D) (ci := 2) (v := .int (nI 2)) (ty := .int) (C := RX1) (T := TX1) (N := 10) hx hb hts hinRX1 tyX1 tyX1_ok nmX1 hown hK hP hD hS 0 rfl rfl 0 (by decide) hf_33 (fun _ h9 => h9) rfl (by decide +kernel) rfl rfl (Nat.le_of_ble_eq_true rfl) dX1_throwing_26 (fun H locs hP hD hS => ?_)
      have hP : va_P D vwCl (WM k0 kv ko ks km kt kp kb cZ cD cI 2 mv io sz mk se pv pd op mw) H := hP
      have hD : va_D A (WM k0 kv ko ks km kt kp kb cZ cD cI 2 mv io sz mk se pv pd op mw) := hD
      refine lv_aload_n hx hb dX1_throwing_29 rfl (lv_at hl 0 rfl) ?_
      refine va_get (D := D) (ci := 2) (v := .int (nI 2)) (C := RX1) (T := TX1) (N := 10) hx hb hts hinRX1 hown hK hP 0 rfl rfl 0 (by decide) hf_33 (fun _ h9 => h9) rfl dX1_throwing_30 ?_
      refine kn_ifle (tgt := 40) hx hb (by decide) dX1_throwing_33 (by decide) (fun h => absurd h (by decide)) (fun _ => ?_)
      refine lv_iconst (v := nI 1) hx hb dX1_throwing_36 (by decide) ?_
      refine lv_goto (tgt := 41) hx hb dX1_throwing_37 (by decide) ?_
      refine kt_i (y := b2i true) rfl ?_
      refine W.widen (k := 0) (n := 0) (Nat.le_of_ble_eq_true rfl) (Nat.le_of_ble_eq_true rfl) ?_
      exact W.zret (v := b2i true) hx hb hr (b2i_nar _) (fun t9 ht9 hW9 => ⟨⟨_, rfl, congrArg b2i (show true = (b1 || b2 || b3) from by simp [c_1, c_2]), by rw [ht9, show thr b1 b2 b3 = 2 from by simp [thr, c_1, c_2]]; exact hP⟩, hS.F ht9⟩) hS.2.2 dX1_throwing_41
  · refine lv_iconst (v := nI 1) hx hb dX1_throwing_5 (by decide) ?_
    refine lv_goto (tgt := 26) hx hb dX1_throwing_6 (by decide) ?_
    refine va_put (D := D) (ci := 2) (v := .int (nI 1)) (ty := .int) (C := RX1) (T := TX1) (N := 10) hx hb hts hinRX1 tyX1 tyX1_ok nmX1 hown hK hP hD hS 0 rfl rfl 0 (by decide) hf_33 (fun _ h9 => h9) rfl (by decide +kernel) rfl rfl (Nat.le_of_ble_eq_true rfl) dX1_throwing_26 (fun H locs hP hD hS => ?_)
    have hP : va_P D vwCl (WM k0 kv ko ks km kt kp kb cZ cD cI 1 mv io sz mk se pv pd op mw) H := hP
    have hD : va_D A (WM k0 kv ko ks km kt kp kb cZ cD cI 1 mv io sz mk se pv pd op mw) := hD
    refine lv_aload_n hx hb dX1_throwing_29 rfl (lv_at hl 0 rfl) ?_
    refine va_get (D := D) (ci := 2) (v := .int (nI 1)) (C := RX1) (T := TX1) (N := 10) hx hb hts hinRX1 hown hK hP 0 rfl rfl 0 (by decide) hf_33 (fun _ h9 => h9) rfl dX1_throwing_30 ?_
    refine kn_ifle (tgt := 40) hx hb (by decide) dX1_throwing_33 (by decide) (fun h => absurd h (by decide)) (fun _ => ?_)
    refine lv_iconst (v := nI 1) hx hb dX1_throwing_36 (by decide) ?_
    refine lv_goto (tgt := 41) hx hb dX1_throwing_37 (by decide) ?_
    refine kt_i (y := b2i true) rfl ?_
    refine W.widen (k := 0) (n := 0) (Nat.le_of_ble_eq_true rfl) (Nat.le_of_ble_eq_true rfl) ?_
    exact W.zret (v := b2i true) hx hb hr (b2i_nar _) (fun t9 ht9 hW9 => ⟨⟨_, rfl, congrArg b2i (show true = (b1 || b2 || b3) from by simp [c_1]), by rw [ht9, show thr b1 b2 b3 = 1 from by simp [thr, c_1]]; exact hP⟩, hS.F ht9⟩) hS.2.2 dX1_throwing_41
set_option maxHeartbeats 4000000 in
set_option maxRecDepth 100000 in
theorem c_X1_comes (l : Launch) (D : va_G) (k0 kv ko ks km kt kp kb : Nat) (cZ cD cI : ClassId) (th : Nat) (mv : Nat → UInt64) (io : Nat → Bool) (sz : Nat → Nat) (mk : Nat → UInt64) (se : Nat → Bool) (pv : Nat → UInt64) (pd : Nat → Bool) (op : Bool) (mw : Int32) (hsz : ∀ j, sz j ≤ 12) (zz : Nat) (t : Nat) (b : Bool) (x : UInt64) (ht : t < 12) (hrm : sz t < 12) : Met l yX1_comes wsX1_comes ({ frames := 0, cells := 0, slots := 0, locals := 0 }) (va_Pc [.ref k0, .int (nI t), .int (b2i b), .double x] (fun U => U.heap.size = zz ∧ va_P D vwCl (WM k0 kv ko ks km kt kp kb cZ cD cI th mv io sz mk se pv pd op mw) U.heap ∧ va_K D vwCl (TY cZ cD cI) U ∧ va_D (fun _ => True) (WM k0 kv ko ks km kt kp kb cZ cD cI th mv io sz mk se pv pd op mw))) (wr_Qi (fun r => r = nI (sz t + 1)) (fun H => va_P D vwCl (WM k0 kv ko ks km kt kp kb cZ cD cI th (up mv (12 * t + sz t) x) (up io (12 * t + sz t) b) (up sz t (sz t + 1)) mk se pv pd op mw) H) (va_A (WM k0 kv ko ks km kt kp kb cZ cD cI th mv io sz mk se pv pd op mw) zz))  0 0 (va_A (WM k0 kv ko ks km kt kp kb cZ cD cI th mv io sz mk se pv pd op mw) zz) := by
  refine Met.ofW (cc := cX1_comes) (maxL := 6) (ret := some .int) (by decide) rfl ?_
  intro p e s m args below meth c s₁ B hml hv
  obtain ⟨rfl, hsz_, hP, hK, hD0⟩ := hv
  have hx := B.exec
  have hb := B.bytes
  have hr := B.returns
  have hts := atoms_spec (ws := wsX1_comes) B.pre
  have hown : s.vm.findClass RX1 = some m.cls := findClass_of_methodNamed B.named
  have hlocks := B.notSynchronized
  subst hsz_
  have hD := hD0.self (sz := s.heap.size)
  generalize hAe : va_A (WM k0 kv ko ks km kt kp kb cZ cD cI th mv io sz mk se pv pd op mw) s.heap.size = A at hD ⊢
  have hA : ∀ q : Nat, s.heap.size ≤ q → A q := fun q h => by rw [← hAe]; exact Or.inr h
  have hS : va_S A s.heap s.heap [] := va_S.rf
  have hl := lv_entry ([.ref k0, .int (nI t), .int (b2i b), .double x]) (n := 6) (Nat.le_of_ble_eq_true rfl)
  rw [lg_entry_eq]
  generalize (lg_sl ([.ref k0, .int (nI t), .int (b2i b), .double x]) ++ List.replicate (6 - (lg_sl ([.ref k0, .int (nI t), .int (b2i b), .double x])).length) Slot.unset).toArray = ls at hl ⊢
  have hl : lv_has ls 6 [(0, .ref k0), (1, .int (nI t)), (2, .int (b2i b)), (3, .double x)] := hl
  have hinRX1 : ∀ w ∈ wsX10, w ∈ wsX1_comes := by decide +kernel
  have hf_17 := hts (.fieldLink RX1 17 "HarbourBoardModel" "sizes" "[I") (by decide +kernel)
  have hf_7 := hts (.fieldLink RX1 7 "HarbourBoardModel" "value" "[D") (by decide +kernel)
  have hf_13 := hts (.fieldLink RX1 13 "HarbourBoardModel" "isOut" "[Z") (by decide +kernel)
  have h1 := hsz t
  refine lv_bipush (v := nI 12) hx hb dX1_comes_0 (by decide) ?_
  refine lv_iload_n hx hb dX1_comes_2 rfl (lv_at hl 1 rfl) ?_
  refine kn_imul hx hb dX1_comes_3 ?_
  refine lv_aload_n hx hb dX1_comes_4 rfl (lv_at hl 0 rfl) ?_
  refine va_get (D := D) (ci := 2) (v := .ref ks) (C := RX1) (T := TX1) (N := 10) hx hb hts hinRX1 hown hK hP 0 rfl rfl 3 (by decide) hf_17 (fun _ h9 => h9) rfl dX1_comes_5 ?_
  refine lv_iload_n hx hb dX1_comes_8 rfl (lv_at hl 1 rfl) ?_
  refine kn_iald hx hb hK hP 3 2 rfl rfl (by omega) (by decide) dX1_comes_9 ?_
  refine kn_iadd hx hb dX1_comes_10 ?_
  refine lv_istore (lv' := [(5, .int (nI ((12 * t) + (sz t)))), (0, .ref k0), (1, .int (nI t)), (2, .int (b2i b)), (3, .double x)]) hx hb dX1_comes_11 hl (by decide) rfl (fun ls hl => ?_)
  refine lv_aload_n hx hb dX1_comes_13 rfl (lv_at hl 1 rfl) ?_
  refine va_get (D := D) (ci := 2) (v := .ref kv) (C := RX1) (T := TX1) (N := 10) hx hb hts hinRX1 hown hK hP 0 rfl rfl 1 (by decide) hf_7 (fun _ h9 => h9) rfl dX1_comes_14 ?_
  refine lv_iload hx hb dX1_comes_17 (lv_at hl 0 rfl) ?_
  refine lv_dload_n hx hb dX1_comes_19 rfl (lv_at hl 4 rfl) ?_
  refine kn_dast hx hb hK hP hD hS 1 1 rfl rfl (by omega) (by decide) dX1_comes_20 (fun H locs hP hD hS => ?_)
  have hP : va_P D vwCl (WM k0 kv ko ks km kt kp kb cZ cD cI th (up mv ((12 * t) + (sz t)) x) io sz mk se pv pd op mw) H := hP
  have hD : va_D A (WM k0 kv ko ks km kt kp kb cZ cD cI th (up mv ((12 * t) + (sz t)) x) io sz mk se pv pd op mw) := hD
  refine lv_aload_n hx hb dX1_comes_21 rfl (lv_at hl 1 rfl) ?_
  refine va_get (D := D) (ci := 2) (v := .ref ko) (C := RX1) (T := TX1) (N := 10) hx hb hts hinRX1 hown hK hP 0 rfl rfl 2 (by decide) hf_13 (fun _ h9 => h9) rfl dX1_comes_22 ?_
  refine lv_iload hx hb dX1_comes_25 (lv_at hl 0 rfl) ?_
  refine lv_iload_n hx hb dX1_comes_27 rfl (lv_at hl 3 rfl) ?_
  refine kn_zast hx hb hK hP hD hS 2 0 rfl rfl (by omega) (by decide) dX1_comes_28 (fun H locs hP hD hS => ?_)
  have hP : va_P D vwCl (WM k0 kv ko ks km kt kp kb cZ cD cI th (up mv ((12 * t) + (sz t)) x) (up io ((12 * t) + (sz t)) b) sz mk se pv pd op mw) H := hP
  have hD : va_D A (WM k0 kv ko ks km kt kp kb cZ cD cI th (up mv ((12 * t) + (sz t)) x) (up io ((12 * t) + (sz t)) b) sz mk se pv pd op mw) := hD
  refine lv_aload_n hx hb dX1_comes_29 rfl (lv_at hl 1 rfl) ?_
  refine va_get (D := D) (ci := 2) (v := .ref ks) (C := RX1) (T := TX1) (N := 10) hx hb hts hinRX1 hown hK hP 0 rfl rfl 3 (by decide) hf_17 (fun _ h9 => h9) rfl dX1_comes_30 ?_
  refine lv_iload_n hx hb dX1_comes_33 rfl (lv_at hl 2 rfl) ?_
  refine lv_dup2_11 hx hb dX1_comes_34 rfl rfl ?_
  refine kn_iald hx hb hK hP 3 2 rfl rfl (by omega) (by decide) dX1_comes_35 ?_
  refine lv_iconst (v := nI 1) hx hb dX1_comes_36 (by decide) ?_
  refine kn_iadd hx hb dX1_comes_37 ?_
  refine kn_iast hx hb hK hP hD hS 3 2 rfl rfl (by omega) (by decide) dX1_comes_38 (fun H locs hP hD hS => ?_)
  have hP : va_P D vwCl (WM k0 kv ko ks km kt kp kb cZ cD cI th (up mv ((12 * t) + (sz t)) x) (up io ((12 * t) + (sz t)) b) (up sz t ((sz t) + 1)) mk se pv pd op mw) H := hP
  have hD : va_D A (WM k0 kv ko ks km kt kp kb cZ cD cI th (up mv ((12 * t) + (sz t)) x) (up io ((12 * t) + (sz t)) b) (up sz t ((sz t) + 1)) mk se pv pd op mw) := hD
  refine lv_aload_n hx hb dX1_comes_39 rfl (lv_at hl 1 rfl) ?_
  refine va_get (D := D) (ci := 2) (v := .ref ks) (C := RX1) (T := TX1) (N := 10) hx hb hts hinRX1 hown hK hP 0 rfl rfl 3 (by decide) hf_17 (fun _ h9 => h9) rfl dX1_comes_40 ?_
  refine lv_iload_n hx hb dX1_comes_43 rfl (lv_at hl 2 rfl) ?_
  refine kn_iald hx hb hK hP 3 2 rfl rfl (by omega) (by decide) dX1_comes_44 ?_
  refine W.widen (k := 0) (n := 0) (Nat.le_of_ble_eq_true rfl) (Nat.le_of_ble_eq_true rfl) ?_
  exact W.iret (v := nI ((up sz t ((sz t) + 1)) t)) hx hb hr (fun t9 ht9 hW9 => ⟨⟨_, rfl, congrArg nI (up_s _ _ _), by rw [ht9]; exact hP⟩, hS.F ht9⟩) hS.2.2 dX1_comes_45
set_option maxHeartbeats 4000000 in
set_option maxRecDepth 100000 in
theorem c_X1_marks (l : Launch) (D : va_G) (k0 kv ko ks km kt kp kb : Nat) (cZ cD cI : ClassId) (th : Nat) (mv : Nat → UInt64) (io : Nat → Bool) (sz : Nat → Nat) (mk : Nat → UInt64) (se : Nat → Bool) (pv : Nat → UInt64) (pd : Nat → Bool) (op : Bool) (mw : Int32) (hsz : ∀ j, sz j ≤ 12) (zz : Nat) (q : Nat) (b : Bool) (x : UInt64) (hq1 : q < 18) : Met l yX1_marks wsX1_marks ({ frames := 0, cells := 0, slots := 0, locals := 0 }) (va_Pc [.ref k0, .int (nI q), .int (b2i b), .double x] (fun U => U.heap.size = zz ∧ va_P D vwCl (WM k0 kv ko ks km kt kp kb cZ cD cI th mv io sz mk se pv pd op mw) U.heap ∧ va_K D vwCl (TY cZ cD cI) U ∧ va_D (fun _ => True) (WM k0 kv ko ks km kt kp kb cZ cD cI th mv io sz mk se pv pd op mw))) (wr_Qi (fun r => r = b2i (se q)) (fun H => va_P D vwCl (WM k0 kv ko ks km kt kp kb cZ cD cI th mv io sz (up mk q x) (up se q b) pv pd op mw) H) (va_A (WM k0 kv ko ks km kt kp kb cZ cD cI th mv io sz mk se pv pd op mw) zz))  0 0 (va_A (WM k0 kv ko ks km kt kp kb cZ cD cI th mv io sz mk se pv pd op mw) zz) := by
  refine Met.ofW (cc := cX1_marks) (maxL := 6) (ret := some .boolean) (by decide) rfl ?_
  intro p e s m args below meth c s₁ B hml hv
  obtain ⟨rfl, hsz_, hP, hK, hD0⟩ := hv
  have hx := B.exec
  have hb := B.bytes
  have hr := B.returns
  have hts := atoms_spec (ws := wsX1_marks) B.pre
  have hown : s.vm.findClass RX1 = some m.cls := findClass_of_methodNamed B.named
  have hlocks := B.notSynchronized
  subst hsz_
  have hD := hD0.self (sz := s.heap.size)
  generalize hAe : va_A (WM k0 kv ko ks km kt kp kb cZ cD cI th mv io sz mk se pv pd op mw) s.heap.size = A at hD ⊢
  have hA : ∀ q : Nat, s.heap.size ≤ q → A q := fun q h => by rw [← hAe]; exact Or.inr h
  have hS : va_S A s.heap s.heap [] := va_S.rf
  have hl := lv_entry ([.ref k0, .int (nI q), .int (b2i b), .double x]) (n := 6) (Nat.le_of_ble_eq_true rfl)
  rw [lg_entry_eq]
  generalize (lg_sl ([.ref k0, .int (nI q), .int (b2i b), .double x]) ++ List.replicate (6 - (lg_sl ([.ref k0, .int (nI q), .int (b2i b), .double x])).length) Slot.unset).toArray = ls at hl ⊢
  have hl : lv_has ls 6 [(0, .ref k0), (1, .int (nI q)), (2, .int (b2i b)), (3, .double x)] := hl
  have hinRX1 : ∀ w ∈ wsX10, w ∈ wsX1_marks := by decide +kernel
  have hf_24 := hts (.fieldLink RX1 24 "HarbourBoardModel" "isSet" "[Z") (by decide +kernel)
  have hf_21 := hts (.fieldLink RX1 21 "HarbourBoardModel" "markValue" "[D") (by decide +kernel)
  refine lv_aload_n hx hb dX1_marks_0 rfl (lv_at hl 0 rfl) ?_
  refine va_get (D := D) (ci := 2) (v := .ref kt) (C := RX1) (T := TX1) (N := 10) hx hb hts hinRX1 hown hK hP 0 rfl rfl 5 (by decide) hf_24 (fun _ h9 => h9) rfl dX1_marks_1 ?_
  refine lv_iload_n hx hb dX1_marks_4 rfl (lv_at hl 1 rfl) ?_
  refine kn_zald hx hb hK hP 5 0 rfl rfl (by omega) (by decide) dX1_marks_5 ?_
  refine lv_istore (lv' := [(5, .int (b2i (se q))), (0, .ref k0), (1, .int (nI q)), (2, .int (b2i b)), (3, .double x)]) hx hb dX1_marks_6 hl (by decide) rfl (fun ls hl => ?_)
  refine lv_aload_n hx hb dX1_marks_8 rfl (lv_at hl 1 rfl) ?_
  refine va_get (D := D) (ci := 2) (v := .ref kt) (C := RX1) (T := TX1) (N := 10) hx hb hts hinRX1 hown hK hP 0 rfl rfl 5 (by decide) hf_24 (fun _ h9 => h9) rfl dX1_marks_9 ?_
  refine lv_iload_n hx hb dX1_marks_12 rfl (lv_at hl 2 rfl) ?_
  refine lv_iload_n hx hb dX1_marks_13 rfl (lv_at hl 3 rfl) ?_
  refine kn_zast hx hb hK hP hD hS 5 0 rfl rfl (by omega) (by decide) dX1_marks_14 (fun H locs hP hD hS => ?_)
  have hP : va_P D vwCl (WM k0 kv ko ks km kt kp kb cZ cD cI th mv io sz mk (up se q b) pv pd op mw) H := hP
  have hD : va_D A (WM k0 kv ko ks km kt kp kb cZ cD cI th mv io sz mk (up se q b) pv pd op mw) := hD
  refine lv_aload_n hx hb dX1_marks_15 rfl (lv_at hl 1 rfl) ?_
  refine va_get (D := D) (ci := 2) (v := .ref km) (C := RX1) (T := TX1) (N := 10) hx hb hts hinRX1 hown hK hP 0 rfl rfl 4 (by decide) hf_21 (fun _ h9 => h9) rfl dX1_marks_16 ?_
  refine lv_iload_n hx hb dX1_marks_19 rfl (lv_at hl 2 rfl) ?_
  refine lv_dload_n hx hb dX1_marks_20 rfl (lv_at hl 4 rfl) ?_
  refine kn_dast hx hb hK hP hD hS 4 1 rfl rfl (by omega) (by decide) dX1_marks_21 (fun H locs hP hD hS => ?_)
  have hP : va_P D vwCl (WM k0 kv ko ks km kt kp kb cZ cD cI th mv io sz (up mk q x) (up se q b) pv pd op mw) H := hP
  have hD : va_D A (WM k0 kv ko ks km kt kp kb cZ cD cI th mv io sz (up mk q x) (up se q b) pv pd op mw) := hD
  refine lv_iload hx hb dX1_marks_22 (lv_at hl 0 rfl) ?_
  refine W.widen (k := 0) (n := 0) (Nat.le_of_ble_eq_true rfl) (Nat.le_of_ble_eq_true rfl) ?_
  exact W.zret (v := b2i (se q)) hx hb hr (b2i_nar _) (fun t9 ht9 hW9 => ⟨⟨_, rfl, rfl, by rw [ht9]; exact hP⟩, hS.F ht9⟩) hS.2.2 dX1_marks_24
set_option maxHeartbeats 4000000 in
set_option maxRecDepth 100000 in
theorem c_X1_probes (l : Launch) (D : va_G) (k0 kv ko ks km kt kp kb : Nat) (cZ cD cI : ClassId) (th : Nat) (mv : Nat → UInt64) (io : Nat → Bool) (sz : Nat → Nat) (mk : Nat → UInt64) (se : Nat → Bool) (pv : Nat → UInt64) (pd : Nat → Bool) (op : Bool) (mw : Int32) (hsz : ∀ j, sz j ≤ 12) (zz : Nat) (w : Nat) (b : Bool) (x : UInt64) (k : Nat) (hw : w < 2) (hk : k < 2147483648) : Met l yX1_probes wsX1_probes ({ frames := 2, cells := 0, slots := 0, locals := 42 }) (va_Pc [.ref k0, .int (nI w), .int (b2i b), .double x, .int (nI k)] (fun U => U.heap.size = zz ∧ va_P D vwCl (WM k0 kv ko ks km kt kp kb cZ cD cI th mv io sz mk se pv pd op mw) U.heap ∧ va_K D vwCl (TY cZ cD cI) U ∧ va_D (fun _ => True) (WM k0 kv ko ks km kt kp kb cZ cD cI th mv io sz mk se pv pd op mw))) (wr_Qi (fun r => r = nI (cn (fun g => isW k (wy (lo io sz (2 * g + w) || !b) (lw mv sz (2 * g + w)) x)) 6)) (fun H => va_P D vwCl (WM k0 kv ko ks km kt kp kb cZ cD cI th mv io sz mk se (up pv w x) (up pd w b) op mw) H) (va_A (WM k0 kv ko ks km kt kp kb cZ cD cI th mv io sz mk se pv pd op mw) zz))  0 0 (va_A (WM k0 kv ko ks km kt kp kb cZ cD cI th mv io sz mk se pv pd op mw) zz) := by
  refine Met.ofW (cc := cX1_probes) (maxL := 9) (ret := some .int) (by decide) rfl ?_
  intro p e s m args below meth c s₁ B hml hv
  obtain ⟨rfl, hsz_, hP, hK, hD0⟩ := hv
  have hx := B.exec
  have hb := B.bytes
  have hr := B.returns
  have hts := atoms_spec (ws := wsX1_probes) B.pre
  have hown : s.vm.findClass RX1 = some m.cls := findClass_of_methodNamed B.named
  have hlocks := B.notSynchronized
  subst hsz_
  have hD := hD0.self (sz := s.heap.size)
  generalize hAe : va_A (WM k0 kv ko ks km kt kp kb cZ cD cI th mv io sz mk se pv pd op mw) s.heap.size = A at hD ⊢
  have hA : ∀ q : Nat, s.heap.size ≤ q → A q := fun q h => by rw [← hAe]; exact Or.inr h
  have hS : va_S A s.heap s.heap [] := va_S.rf
  have hl := lv_entry ([.ref k0, .int (nI w), .int (b2i b), .double x, .int (nI k)]) (n := 9) (Nat.le_of_ble_eq_true rfl)
  rw [lg_entry_eq]
  generalize (lg_sl ([.ref k0, .int (nI w), .int (b2i b), .double x, .int (nI k)]) ++ List.replicate (9 - (lg_sl ([.ref k0, .int (nI w), .int (b2i b), .double x, .int (nI k)])).length) Slot.unset).toArray = ls at hl ⊢
  have hl : lv_has ls 9 [(0, .ref k0), (1, .int (nI w)), (2, .int (b2i b)), (3, .double x), (5, .int (nI k))] := hl
  have hinRX1 : ∀ w ∈ wsX10, w ∈ wsX1_probes := by decide +kernel
  have hf_30 := hts (.fieldLink RX1 30 "HarbourBoardModel" "isProbed" "[Z") (by decide +kernel)
  have hf_27 := hts (.fieldLink RX1 27 "HarbourBoardModel" "probeValue" "[D") (by decide +kernel)
  refine lv_aload_n hx hb dX1_probes_0 rfl (lv_at hl 0 rfl) ?_
  refine va_get (D := D) (ci := 2) (v := .ref kb) (C := RX1) (T := TX1) (N := 10) hx hb hts hinRX1 hown hK hP 0 rfl rfl 7 (by decide) hf_30 (fun _ h9 => h9) rfl dX1_probes_1 ?_
  refine lv_iload_n hx hb dX1_probes_4 rfl (lv_at hl 1 rfl) ?_
  refine lv_iload_n hx hb dX1_probes_5 rfl (lv_at hl 2 rfl) ?_
  refine kn_zast hx hb hK hP hD hS 7 0 rfl rfl (by omega) (by decide) dX1_probes_6 (fun H locs hP hD hS => ?_)
  have hP : va_P D vwCl (WM k0 kv ko ks km kt kp kb cZ cD cI th mv io sz mk se pv (up pd w b) op mw) H := hP
  have hD : va_D A (WM k0 kv ko ks km kt kp kb cZ cD cI th mv io sz mk se pv (up pd w b) op mw) := hD
  refine lv_aload_n hx hb dX1_probes_7 rfl (lv_at hl 0 rfl) ?_
  refine va_get (D := D) (ci := 2) (v := .ref kp) (C := RX1) (T := TX1) (N := 10) hx hb hts hinRX1 hown hK hP 0 rfl rfl 6 (by decide) hf_27 (fun _ h9 => h9) rfl dX1_probes_8 ?_
  refine lv_iload_n hx hb dX1_probes_11 rfl (lv_at hl 1 rfl) ?_
  refine lv_dload_n hx hb dX1_probes_12 rfl (lv_at hl 3 rfl) ?_
  refine kn_dast hx hb hK hP hD hS 6 1 rfl rfl (by omega) (by decide) dX1_probes_13 (fun H locs hP hD hS => ?_)
  have hP : va_P D vwCl (WM k0 kv ko ks km kt kp kb cZ cD cI th mv io sz mk se (up pv w x) (up pd w b) op mw) H := hP
  have hD : va_D A (WM k0 kv ko ks km kt kp kb cZ cD cI th mv io sz mk se (up pv w x) (up pd w b) op mw) := hD
  refine lv_iconst (v := nI 0) hx hb dX1_probes_14 (by decide) ?_
  refine lv_istore (lv' := [(6, .int (nI 0)), (0, .ref k0), (1, .int (nI w)), (2, .int (b2i b)), (3, .double x), (5, .int (nI k))]) hx hb dX1_probes_15 hl (by decide) rfl (fun ls hl => ?_)
  refine lv_iconst (v := nI 0) hx hb dX1_probes_17 (by decide) ?_
  refine lv_istore (lv' := [(7, .int (nI 0)), (6, .int (nI 0)), (0, .ref k0), (1, .int (nI w)), (2, .int (b2i b)), (3, .double x), (5, .int (nI k))]) hx hb dX1_probes_18 hl (by decide) rfl (fun ls hl => ?_)
  refine (?_ : ∀ (k_ i : Nat) (ls : Array Slot), i + k_ = 6 → lv_has ls 9 [(0, .ref k0), (1, .int (nI w)), (2, .int (b2i b)), (3, .double x), (5, .int (nI k)), (6, .int (nI (cn (fun g => isW k (wy (lo io sz (2 * g + w) || !b) (lw mv sz (2 * g + w)) x)) i))), (7, .int (nI i))] → W p l e _ s m _ below meth c _ _ _ _ _ (F0 m 20 ls [])) 6 0 ls (by omega) (lv_sub hl [2, 3, 4, 5, 6, 1, 0] rfl)
  clear hl
  intro k_
  induction k_ with
  | zero =>
    intro i ls hi hl
    refine lv_iload hx hb dX1_probes_20 (lv_at hl 6 rfl) ?_
    refine lv_bipush (v := nI 6) hx hb dX1_probes_22 (by decide) ?_
    refine kn_icmp_ge (tgt := 88) hx hb (by omega) (by decide) dX1_probes_24 (by decide) (fun c_x => ?_) (fun h => absurd h (by omega))
    refine lv_iload hx hb dX1_probes_88 (lv_at hl 5 rfl) ?_
    refine W.widen (k := 0) (n := 0) (Nat.le_of_ble_eq_true rfl) (Nat.le_of_ble_eq_true rfl) ?_
    exact W.iret (v := nI (cn (fun g => isW k (wy (lo io sz (2 * g + w) || !b) (lw mv sz (2 * g + w)) x)) i)) hx hb hr (fun t9 ht9 hW9 => ⟨⟨_, rfl, by rw [show i = 6 by omega], by rw [ht9]; exact hP⟩, hS.F ht9⟩) hS.2.2 dX1_probes_90
  | succ k_ ih =>
    intro i ls hi hl
    refine lv_iload hx hb dX1_probes_20 (lv_at hl 6 rfl) ?_
    refine lv_bipush (v := nI 6) hx hb dX1_probes_22 (by decide) ?_
    refine kn_icmp_ge (tgt := 88) hx hb (by omega) (by decide) dX1_probes_24 (by decide) (fun h => absurd h (by omega)) (fun c_x => ?_)
    refine lv_iconst (v := nI 2) hx hb dX1_probes_27 (by decide) ?_
    refine lv_iload hx hb dX1_probes_28 (lv_at hl 6 rfl) ?_
    refine kn_imul hx hb dX1_probes_30 ?_
    refine lv_iload_n hx hb dX1_probes_31 rfl (lv_at hl 1 rfl) ?_
    refine kn_iadd hx hb dX1_probes_32 ?_
    refine lv_istore (lv' := [(8, .int (nI ((2 * i) + w))), (0, .ref k0), (1, .int (nI w)), (2, .int (b2i b)), (3, .double x), (5, .int (nI k)), (6, .int (nI (cn (fun g => isW k (wy (lo io sz (2 * g + w) || !b) (lw mv sz (2 * g + w)) x)) i))), (7, .int (nI i))]) hx hb dX1_probes_33 hl (by decide) rfl (fun ls hl => ?_)
    refine lv_iload hx hb dX1_probes_35 (lv_at hl 5 rfl) ?_
    refine lv_aload_n hx hb dX1_probes_37 rfl (lv_at hl 1 rfl) ?_
    refine lv_iload hx hb dX1_probes_38 (lv_at hl 0 rfl) ?_
    refine rd_calli (va_runV (As := [.int (nI ((2 * i) + w))]) (rest := [.int (nI k)]) ⟨hx, hb, hml, hown, hts⟩ (c_X1_latestOut l D k0 kv ko ks km kt kp kb cZ cD cI th mv io sz mk se (up pv w x) (up pd w b) op mw hsz ((2 * i) + w) (by omega)) (cwV 1 hts gX1_probes_X1_latestOut rfl rfl rfl (by decide +kernel) ⟨Nat.le_of_ble_eq_true rfl, Nat.le_of_ble_eq_true rfl⟩) ⟨fun a U g mk q => ⟨q.1, q.2.1, va_K.moved (u := U) (U := U.calling g mk a) (Vm.Alike.refl U.vm) q.2.2⟩, va_recv hK hP (ci := 2) (q0 := 0) rfl rfl, fun U hU hW => ⟨rfl, by rw [hU]; exact hP, va_K.moved hW.alike hK⟩⟩ rfl rfl hl.1 rfl (lv_room (Nat.le_of_ble_eq_true rfl)) dX1_probes_40 ⟨Nat.le_of_ble_eq_true rfl, Nat.le_of_ble_eq_true rfl⟩) (fun r_1 hr_1 => ?_)
    subst hr_1
    refine kb_ne (tgt := 50) hx hb dX1_probes_43 (by decide) (fun c_2 => ?_) (fun c_2 => ?_)
    · refine lv_iconst (v := nI 1) hx hb dX1_probes_50 (by decide) ?_
      refine lv_goto (tgt := 55) hx hb dX1_probes_51 (by decide) ?_
      refine lv_aload_n hx hb dX1_probes_55 rfl (lv_at hl 1 rfl) ?_
      refine lv_iload hx hb dX1_probes_56 (lv_at hl 0 rfl) ?_
      refine rd_calld (va_runV (As := [.int (nI ((2 * i) + w))]) (rest := [.int (nI 1), .int (nI k)]) ⟨hx, hb, hml, hown, hts⟩ (c_X1_latestValue l D k0 kv ko ks km kt kp kb cZ cD cI th mv io sz mk se (up pv w x) (up pd w b) op mw hsz ((2 * i) + w) (by omega)) (cwV 1 hts gX1_probes_X1_latestValue rfl rfl rfl (by decide +kernel) ⟨Nat.le_of_ble_eq_true rfl, Nat.le_of_ble_eq_true rfl⟩) ⟨fun a U g mk q => ⟨q.1, q.2.1, va_K.moved (u := U) (U := U.calling g mk a) (Vm.Alike.refl U.vm) q.2.2⟩, va_recv hK hP (ci := 2) (q0 := 0) rfl rfl, fun U hU hW => ⟨rfl, by rw [hU]; exact hP, va_K.moved hW.alike hK⟩⟩ rfl rfl hl.1 rfl (lv_room (Nat.le_of_ble_eq_true rfl)) dX1_probes_58 ⟨Nat.le_of_ble_eq_true rfl, Nat.le_of_ble_eq_true rfl⟩) (fun r_3 hr_3 => ?_)
      subst hr_3
      refine lv_dload_n hx hb dX1_probes_61 rfl (lv_at hl 4 rfl) ?_
      refine rd_calli (va_runS (As := [.int (b2i true), .double (lw mv sz ((2 * i) + w)), .double x]) (rest := [.int (nI k)]) ⟨hx, hb, hml, hown, hts⟩ (c_X1_way l true (lw mv sz ((2 * i) + w)) x ) (va_cwS 3 hts gX1_probes_X1_way rfl rfl rfl (by decide +kernel) ⟨Nat.le_of_ble_eq_true rfl, Nat.le_of_ble_eq_true rfl⟩) ⟨fun a U g mk q => q, fun U hU hW => ⟨rfl, trivial⟩⟩ rfl rfl hl.1 rfl (lv_room (Nat.le_of_ble_eq_true rfl)) dX1_probes_62 ⟨Nat.le_of_ble_eq_true rfl, Nat.le_of_ble_eq_true rfl⟩) (fun r_4 hr_4 => ?_)
      subst hr_4
      refine rd_calli (va_runS (As := [.int (nI k), .int (nI (wy true (lw mv sz ((2 * i) + w)) x))]) (rest := []) ⟨hx, hb, hml, hown, hts⟩ (c_X1_is l k (wy true (lw mv sz ((2 * i) + w)) x) (by omega) (wy_lt _ _ _)) (va_cwS 2 hts gX1_probes_X1_is rfl rfl rfl (by decide +kernel) ⟨Nat.le_of_ble_eq_true rfl, Nat.le_of_ble_eq_true rfl⟩) ⟨fun a U g mk q => q, fun U hU hW => ⟨rfl, trivial⟩⟩ rfl rfl hl.1 rfl (lv_room (Nat.le_of_ble_eq_true rfl)) dX1_probes_65 ⟨Nat.le_of_ble_eq_true rfl, Nat.le_of_ble_eq_true rfl⟩) (fun r_5 hr_5 => ?_)
      subst hr_5
      refine kb_eq (tgt := 78) hx hb dX1_probes_68 (by decide) (fun c_6 => ?_) (fun c_6 => ?_)
      · refine lv_iload hx hb dX1_probes_78 (lv_at hl 6 rfl) ?_
        refine lv_istore (lv' := [(6, .int (nI (cn (fun g => isW k (wy (lo io sz (2 * g + w) || !b) (lw mv sz (2 * g + w)) x)) i))), (8, .int (nI ((2 * i) + w))), (0, .ref k0), (1, .int (nI w)), (2, .int (b2i b)), (3, .double x), (5, .int (nI k)), (7, .int (nI i))]) hx hb dX1_probes_80 hl (by decide) rfl (fun ls hl => ?_)
        refine lv_iinc (v := nI (i + 1)) (lv' := [(7, .int (nI (i + 1))), (6, .int (nI (cn (fun g => isW k (wy (lo io sz (2 * g + w) || !b) (lw mv sz (2 * g + w)) x)) i))), (8, .int (nI ((2 * i) + w))), (0, .ref k0), (1, .int (nI w)), (2, .int (b2i b)), (3, .double x), (5, .int (nI k))]) hx hb dX1_probes_82 hl (k := 7) rfl (nI_add i 1) (by decide) rfl (fun ls hl => ?_)
        refine lv_goto (tgt := 20) hx hb dX1_probes_85 (by decide) ?_
        have e_1 : cn (fun g => isW k (wy (lo io sz (2 * g + w) || !b) (lw mv sz (2 * g + w)) x)) (i + 1) = cn (fun g => isW k (wy (lo io sz (2 * g + w) || !b) (lw mv sz (2 * g + w)) x)) i := cn_f (P := (fun g => isW k (wy (lo io sz (2 * g + w) || !b) (lw mv sz (2 * g + w)) x))) (i := i) (by show isW k (wy (lo io sz (2 * i + w) || !b) (lw mv sz (2 * i + w)) x) = false; rw [c_2]; exact c_6)
        exact ih (i + 1) ls (by omega) (by rw [e_1]; exact lv_sub hl [3, 4, 5, 6, 7, 1, 0] rfl)
      · refine lv_iload hx hb dX1_probes_71 (lv_at hl 6 rfl) ?_
        refine lv_iconst (v := nI 1) hx hb dX1_probes_73 (by decide) ?_
        refine kn_iadd hx hb dX1_probes_74 ?_
        refine lv_goto (tgt := 80) hx hb dX1_probes_75 (by decide) ?_
        refine lv_istore (lv' := [(6, .int (nI ((cn (fun g => isW k (wy (lo io sz (2 * g + w) || !b) (lw mv sz (2 * g + w)) x)) i) + 1))), (8, .int (nI ((2 * i) + w))), (0, .ref k0), (1, .int (nI w)), (2, .int (b2i b)), (3, .double x), (5, .int (nI k)), (7, .int (nI i))]) hx hb dX1_probes_80 hl (by decide) rfl (fun ls hl => ?_)
        refine lv_iinc (v := nI (i + 1)) (lv' := [(7, .int (nI (i + 1))), (6, .int (nI ((cn (fun g => isW k (wy (lo io sz (2 * g + w) || !b) (lw mv sz (2 * g + w)) x)) i) + 1))), (8, .int (nI ((2 * i) + w))), (0, .ref k0), (1, .int (nI w)), (2, .int (b2i b)), (3, .double x), (5, .int (nI k))]) hx hb dX1_probes_82 hl (k := 7) rfl (nI_add i 1) (by decide) rfl (fun ls hl => ?_)
        refine lv_goto (tgt := 20) hx hb dX1_probes_85 (by decide) ?_
        have e_1 : cn (fun g => isW k (wy (lo io sz (2 * g + w) || !b) (lw mv sz (2 * g + w)) x)) (i + 1) = (cn (fun g => isW k (wy (lo io sz (2 * g + w) || !b) (lw mv sz (2 * g + w)) x)) i) + 1 := cn_t (P := (fun g => isW k (wy (lo io sz (2 * g + w) || !b) (lw mv sz (2 * g + w)) x))) (i := i) (by show isW k (wy (lo io sz (2 * i + w) || !b) (lw mv sz (2 * i + w)) x) = true; rw [c_2]; exact c_6)
        exact ih (i + 1) ls (by omega) (by rw [e_1]; exact lv_sub hl [3, 4, 5, 6, 7, 1, 0] rfl)
    · refine lv_iload_n hx hb dX1_probes_46 rfl (lv_at hl 3 rfl) ?_
      refine kb_ne (tgt := 54) hx hb dX1_probes_47 (by decide) (fun c_7 => ?_) (fun c_7 => ?_)
      · refine lv_iconst (v := nI 0) hx hb dX1_probes_54 (by decide) ?_
        refine lv_aload_n hx hb dX1_probes_55 rfl (lv_at hl 1 rfl) ?_
        refine lv_iload hx hb dX1_probes_56 (lv_at hl 0 rfl) ?_
        refine rd_calld (va_runV (As := [.int (nI ((2 * i) + w))]) (rest := [.int (nI 0), .int (nI k)]) ⟨hx, hb, hml, hown, hts⟩ (c_X1_latestValue l D k0 kv ko ks km kt kp kb cZ cD cI th mv io sz mk se (up pv w x) (up pd w b) op mw hsz ((2 * i) + w) (by omega)) (cwV 1 hts gX1_probes_X1_latestValue rfl rfl rfl (by decide +kernel) ⟨Nat.le_of_ble_eq_true rfl, Nat.le_of_ble_eq_true rfl⟩) ⟨fun a U g mk q => ⟨q.1, q.2.1, va_K.moved (u := U) (U := U.calling g mk a) (Vm.Alike.refl U.vm) q.2.2⟩, va_recv hK hP (ci := 2) (q0 := 0) rfl rfl, fun U hU hW => ⟨rfl, by rw [hU]; exact hP, va_K.moved hW.alike hK⟩⟩ rfl rfl hl.1 rfl (lv_room (Nat.le_of_ble_eq_true rfl)) dX1_probes_58 ⟨Nat.le_of_ble_eq_true rfl, Nat.le_of_ble_eq_true rfl⟩) (fun r_8 hr_8 => ?_)
        subst hr_8
        refine lv_dload_n hx hb dX1_probes_61 rfl (lv_at hl 4 rfl) ?_
        refine rd_calli (va_runS (As := [.int (b2i false), .double (lw mv sz ((2 * i) + w)), .double x]) (rest := [.int (nI k)]) ⟨hx, hb, hml, hown, hts⟩ (c_X1_way l false (lw mv sz ((2 * i) + w)) x ) (va_cwS 3 hts gX1_probes_X1_way rfl rfl rfl (by decide +kernel) ⟨Nat.le_of_ble_eq_true rfl, Nat.le_of_ble_eq_true rfl⟩) ⟨fun a U g mk q => q, fun U hU hW => ⟨rfl, trivial⟩⟩ rfl rfl hl.1 rfl (lv_room (Nat.le_of_ble_eq_true rfl)) dX1_probes_62 ⟨Nat.le_of_ble_eq_true rfl, Nat.le_of_ble_eq_true rfl⟩) (fun r_9 hr_9 => ?_)
        subst hr_9
        refine rd_calli (va_runS (As := [.int (nI k), .int (nI (wy false (lw mv sz ((2 * i) + w)) x))]) (rest := []) ⟨hx, hb, hml, hown, hts⟩ (c_X1_is l k (wy false (lw mv sz ((2 * i) + w)) x) (by omega) (wy_lt _ _ _)) (va_cwS 2 hts gX1_probes_X1_is rfl rfl rfl (by decide +kernel) ⟨Nat.le_of_ble_eq_true rfl, Nat.le_of_ble_eq_true rfl⟩) ⟨fun a U g mk q => q, fun U hU hW => ⟨rfl, trivial⟩⟩ rfl rfl hl.1 rfl (lv_room (Nat.le_of_ble_eq_true rfl)) dX1_probes_65 ⟨Nat.le_of_ble_eq_true rfl, Nat.le_of_ble_eq_true rfl⟩) (fun r_10 hr_10 => ?_)
        subst hr_10
        refine kb_eq (tgt := 78) hx hb dX1_probes_68 (by decide) (fun c_11 => ?_) (fun c_11 => ?_)
        · refine lv_iload hx hb dX1_probes_78 (lv_at hl 6 rfl) ?_
          refine lv_istore (lv' := [(6, .int (nI (cn (fun g => isW k (wy (lo io sz (2 * g + w) || !b) (lw mv sz (2 * g + w)) x)) i))), (8, .int (nI ((2 * i) + w))), (0, .ref k0), (1, .int (nI w)), (2, .int (b2i b)), (3, .double x), (5, .int (nI k)), (7, .int (nI i))]) hx hb dX1_probes_80 hl (by decide) rfl (fun ls hl => ?_)
          refine lv_iinc (v := nI (i + 1)) (lv' := [(7, .int (nI (i + 1))), (6, .int (nI (cn (fun g => isW k (wy (lo io sz (2 * g + w) || !b) (lw mv sz (2 * g + w)) x)) i))), (8, .int (nI ((2 * i) + w))), (0, .ref k0), (1, .int (nI w)), (2, .int (b2i b)), (3, .double x), (5, .int (nI k))]) hx hb dX1_probes_82 hl (k := 7) rfl (nI_add i 1) (by decide) rfl (fun ls hl => ?_)
          refine lv_goto (tgt := 20) hx hb dX1_probes_85 (by decide) ?_
          have e_1 : cn (fun g => isW k (wy (lo io sz (2 * g + w) || !b) (lw mv sz (2 * g + w)) x)) (i + 1) = cn (fun g => isW k (wy (lo io sz (2 * g + w) || !b) (lw mv sz (2 * g + w)) x)) i := cn_f (P := (fun g => isW k (wy (lo io sz (2 * g + w) || !b) (lw mv sz (2 * g + w)) x))) (i := i) (by show isW k (wy (lo io sz (2 * i + w) || !b) (lw mv sz (2 * i + w)) x) = false; rw [c_2, c_7]; exact c_11)
          exact ih (i + 1) ls (by omega) (by rw [e_1]; exact lv_sub hl [3, 4, 5, 6, 7, 1, 0] rfl)
        · refine lv_iload hx hb dX1_probes_71 (lv_at hl 6 rfl) ?_
          refine lv_iconst (v := nI 1) hx hb dX1_probes_73 (by decide) ?_
          refine kn_iadd hx hb dX1_probes_74 ?_
          refine lv_goto (tgt := 80) hx hb dX1_probes_75 (by decide) ?_
          refine lv_istore (lv' := [(6, .int (nI ((cn (fun g => isW k (wy (lo io sz (2 * g + w) || !b) (lw mv sz (2 * g + w)) x)) i) + 1))), (8, .int (nI ((2 * i) + w))), (0, .ref k0), (1, .int (nI w)), (2, .int (b2i b)), (3, .double x), (5, .int (nI k)), (7, .int (nI i))]) hx hb dX1_probes_80 hl (by decide) rfl (fun ls hl => ?_)
          refine lv_iinc (v := nI (i + 1)) (lv' := [(7, .int (nI (i + 1))), (6, .int (nI ((cn (fun g => isW k (wy (lo io sz (2 * g + w) || !b) (lw mv sz (2 * g + w)) x)) i) + 1))), (8, .int (nI ((2 * i) + w))), (0, .ref k0), (1, .int (nI w)), (2, .int (b2i b)), (3, .double x), (5, .int (nI k))]) hx hb dX1_probes_82 hl (k := 7) rfl (nI_add i 1) (by decide) rfl (fun ls hl => ?_)
          refine lv_goto (tgt := 20) hx hb dX1_probes_85 (by decide) ?_
          have e_1 : cn (fun g => isW k (wy (lo io sz (2 * g + w) || !b) (lw mv sz (2 * g + w)) x)) (i + 1) = (cn (fun g => isW k (wy (lo io sz (2 * g + w) || !b) (lw mv sz (2 * g + w)) x)) i) + 1 := cn_t (P := (fun g => isW k (wy (lo io sz (2 * g + w) || !b) (lw mv sz (2 * g + w)) x))) (i := i) (by show isW k (wy (lo io sz (2 * i + w) || !b) (lw mv sz (2 * i + w)) x) = true; rw [c_2, c_7]; exact c_11)
          exact ih (i + 1) ls (by omega) (by rw [e_1]; exact lv_sub hl [3, 4, 5, 6, 7, 1, 0] rfl)
      · refine lv_iconst (v := nI 1) hx hb dX1_probes_50 (by decide) ?_
        refine lv_goto (tgt := 55) hx hb dX1_probes_51 (by decide) ?_
        refine lv_aload_n hx hb dX1_probes_55 rfl (lv_at hl 1 rfl) ?_
        refine lv_iload hx hb dX1_probes_56 (lv_at hl 0 rfl) ?_
        refine rd_calld (va_runV (As := [.int (nI ((2 * i) + w))]) (rest := [.int (nI 1), .int (nI k)]) ⟨hx, hb, hml, hown, hts⟩ (c_X1_latestValue l D k0 kv ko ks km kt kp kb cZ cD cI th mv io sz mk se (up pv w x) (up pd w b) op mw hsz ((2 * i) + w) (by omega)) (cwV 1 hts gX1_probes_X1_latestValue rfl rfl rfl (by decide +kernel) ⟨Nat.le_of_ble_eq_true rfl, Nat.le_of_ble_eq_true rfl⟩) ⟨fun a U g mk q => ⟨q.1, q.2.1, va_K.moved (u := U) (U := U.calling g mk a) (Vm.Alike.refl U.vm) q.2.2⟩, va_recv hK hP (ci := 2) (q0 := 0) rfl rfl, fun U hU hW => ⟨rfl, by rw [hU]; exact hP, va_K.moved hW.alike hK⟩⟩ rfl rfl hl.1 rfl (lv_room (Nat.le_of_ble_eq_true rfl)) dX1_probes_58 ⟨Nat.le_of_ble_eq_true rfl, Nat.le_of_ble_eq_true rfl⟩) (fun r_12 hr_12 => ?_)
        subst hr_12
        refine lv_dload_n hx hb dX1_probes_61 rfl (lv_at hl 4 rfl) ?_
        refine rd_calli (va_runS (As := [.int (b2i true), .double (lw mv sz ((2 * i) + w)), .double x]) (rest := [.int (nI k)]) ⟨hx, hb, hml, hown, hts⟩ (c_X1_way l true (lw mv sz ((2 * i) + w)) x ) (va_cwS 3 hts gX1_probes_X1_way rfl rfl rfl (by decide +kernel) ⟨Nat.le_of_ble_eq_true rfl, Nat.le_of_ble_eq_true rfl⟩) ⟨fun a U g mk q => q, fun U hU hW => ⟨rfl, trivial⟩⟩ rfl rfl hl.1 rfl (lv_room (Nat.le_of_ble_eq_true rfl)) dX1_probes_62 ⟨Nat.le_of_ble_eq_true rfl, Nat.le_of_ble_eq_true rfl⟩) (fun r_13 hr_13 => ?_)
        subst hr_13
        refine rd_calli (va_runS (As := [.int (nI k), .int (nI (wy true (lw mv sz ((2 * i) + w)) x))]) (rest := []) ⟨hx, hb, hml, hown, hts⟩ (c_X1_is l k (wy true (lw mv sz ((2 * i) + w)) x) (by omega) (wy_lt _ _ _)) (va_cwS 2 hts gX1_probes_X1_is rfl rfl rfl (by decide +kernel) ⟨Nat.le_of_ble_eq_true rfl, Nat.le_of_ble_eq_true rfl⟩) ⟨fun a U g mk q => q, fun U hU hW => ⟨rfl, trivial⟩⟩ rfl rfl hl.1 rfl (lv_room (Nat.le_of_ble_eq_true rfl)) dX1_probes_65 ⟨Nat.le_of_ble_eq_true rfl, Nat.le_of_ble_eq_true rfl⟩) (fun r_14 hr_14 => ?_)
        subst hr_14
        refine kb_eq (tgt := 78) hx hb dX1_probes_68 (by decide) (fun c_15 => ?_) (fun c_15 => ?_)
        · refine lv_iload hx hb dX1_probes_78 (lv_at hl 6 rfl) ?_
          refine lv_istore (lv' := [(6, .int (nI (cn (fun g => isW k (wy (lo io sz (2 * g + w) || !b) (lw mv sz (2 * g + w)) x)) i))), (8, .int (nI ((2 * i) + w))), (0, .ref k0), (1, .int (nI w)), (2, .int (b2i b)), (3, .double x), (5, .int (nI k)), (7, .int (nI i))]) hx hb dX1_probes_80 hl (by decide) rfl (fun ls hl => ?_)
          refine lv_iinc (v := nI (i + 1)) (lv' := [(7, .int (nI (i + 1))), (6, .int (nI (cn (fun g => isW k (wy (lo io sz (2 * g + w) || !b) (lw mv sz (2 * g + w)) x)) i))), (8, .int (nI ((2 * i) + w))), (0, .ref k0), (1, .int (nI w)), (2, .int (b2i b)), (3, .double x), (5, .int (nI k))]) hx hb dX1_probes_82 hl (k := 7) rfl (nI_add i 1) (by decide) rfl (fun ls hl => ?_)
          refine lv_goto (tgt := 20) hx hb dX1_probes_85 (by decide) ?_
          have e_1 : cn (fun g => isW k (wy (lo io sz (2 * g + w) || !b) (lw mv sz (2 * g + w)) x)) (i + 1) = cn (fun g => isW k (wy (lo io sz (2 * g + w) || !b) (lw mv sz (2 * g + w)) x)) i := cn_f (P := (fun g => isW k (wy (lo io sz (2 * g + w) || !b) (lw mv sz (2 * g + w)) x))) (i := i) (by show isW k (wy (lo io sz (2 * i + w) || !b) (lw mv sz (2 * i + w)) x) = false; rw [c_2, c_7]; exact c_15)
          exact ih (i + 1) ls (by omega) (by rw [e_1]; exact lv_sub hl [3, 4, 5, 6, 7, 1, 0] rfl)
        · refine lv_iload hx hb dX1_probes_71 (lv_at hl 6 rfl) ?_
          refine lv_iconst (v := nI 1) hx hb dX1_probes_73 (by decide) ?_
          refine kn_iadd hx hb dX1_probes_74 ?_
          refine lv_goto (tgt := 80) hx hb dX1_probes_75 (by decide) ?_
          refine lv_istore (lv' := [(6, .int (nI ((cn (fun g => isW k (wy (lo io sz (2 * g + w) || !b) (lw mv sz (2 * g + w)) x)) i) + 1))), (8, .int (nI ((2 * i) + w))), (0, .ref k0), (1, .int (nI w)), (2, .int (b2i b)), (3, .double x), (5, .int (nI k)), (7, .int (nI i))]) hx hb dX1_probes_80 hl (by decide) rfl (fun ls hl => ?_)
          refine lv_iinc (v := nI (i + 1)) (lv' := [(7, .int (nI (i + 1))), (6, .int (nI ((cn (fun g => isW k (wy (lo io sz (2 * g + w) || !b) (lw mv sz (2 * g + w)) x)) i) + 1))), (8, .int (nI ((2 * i) + w))), (0, .ref k0), (1, .int (nI w)), (2, .int (b2i b)), (3, .double x), (5, .int (nI k))]) hx hb dX1_probes_82 hl (k := 7) rfl (nI_add i 1) (by decide) rfl (fun ls hl => ?_)
          refine lv_goto (tgt := 20) hx hb dX1_probes_85 (by decide) ?_
          have e_1 : cn (fun g => isW k (wy (lo io sz (2 * g + w) || !b) (lw mv sz (2 * g + w)) x)) (i + 1) = (cn (fun g => isW k (wy (lo io sz (2 * g + w) || !b) (lw mv sz (2 * g + w)) x)) i) + 1 := cn_t (P := (fun g => isW k (wy (lo io sz (2 * g + w) || !b) (lw mv sz (2 * g + w)) x))) (i := i) (by show isW k (wy (lo io sz (2 * i + w) || !b) (lw mv sz (2 * i + w)) x) = true; rw [c_2, c_7]; exact c_15)
          exact ih (i + 1) ls (by omega) (by rw [e_1]; exact lv_sub hl [3, 4, 5, 6, 7, 1, 0] rfl)
