/-- a float of the winds' range is a number, as a double too -/
theorem n64_of {r : UInt64} (h : FP.dIsNaN r = false) : vf_n64 r := by
  have h1 : ¬ 9218868437227405312 < r.toNat % 2 ^ 63 := fun q => by
    have h2 := (FP.Core.isNaN_bits r).mpr q
    have h3 : FP.Core.dIsNaN r = false := h
    rw [h3] at h2; cases h2
  unfold vf_n64
  rw [UInt64.le_iff_toNat_le, UInt64.toNat_and]
  have e : (0x7fffffffffffffff : UInt64).toNat = 2 ^ 63 - 1 := rfl
  have e2 : (0x7ff0000000000000 : UInt64).toNat = 9218868437227405312 := rfl
  rw [e, Nat.and_two_pow_sub_one_eq_mod, e2]
  omega
theorem n32_of {r : UInt32} (h : FP.fIsNaN r = false) : vf_n32 r := by
  have h1 : ¬ 2139095040 < r.toNat % 2 ^ 31 := fun q => by
    have h2 := (FP.Core.isNaN_bits32 r).mpr q
    have h3 : FP.Core.fIsNaN r = false := h
    rw [h3] at h2; cases h2
  unfold vf_n32
  rw [UInt32.le_iff_toNat_le, UInt32.toNat_and]
  have e : (0x7fffffff : UInt32).toNat = 2 ^ 31 - 1 := rfl
  have e2 : (0x7f800000 : UInt32).toNat = 2139095040 := rfl
  rw [e, Nat.and_two_pow_sub_one_eq_mod, e2]
  omega
theorem wnd_num {x : UInt32} (h : wnd x = true) : FP.fIsNaN x = false := by
  cases hc : FP.fcmp x FP.fconst0 with
  | none => simp [wnd, hc, oGe] at h
  | some o => exact (FP.Core.fcmp_notNaN hc).1
theorem lvl_num {x : UInt64} (h : lvl x = true) : FP.dIsNaN x = false := by
  cases hc : FP.dcmp x 13875379345695965184 with
  | none => simp [lvl, hc, oGe] at h
  | some o => exact (FP.Core.dcmp_notNaN hc).1
theorem f2d_n {x : UInt32} (h : wnd x = true) : vf_n64 (FP.f2d x) := n64_of (by rw [FP.f2d_nan]; exact wnd_num h)
def rnC (nb : Nat → Bool) (v : Nat → UInt64) (ln : Nat → Nat) (g w k : Nat) (b : Bool) : Nat := if b = true then tk (fun j => !rp nb v ((g * 2 + w) * 12 + (ln (g * 2 + w) - 1 - j)) (162 + w) k) (ln (g * 2 + w)) 0 else tk (fun j => rp nb v ((g * 2 + w) * 12 + j) (162 + w) k) (ln (g * 2 + w)) 0
def ctC (nb : Nat → Bool) (v : Nat → UInt64) (ln : Nat → Nat) (g w k : Nat) (b : Bool) : Nat := if b = true then ln (g * 2 + w) - cn (fun j => rp nb v ((g * 2 + w) * 12 + j) (162 + w) k) (ln (g * 2 + w)) else cn (fun j => rp nb v ((g * 2 + w) * 12 + j) (162 + w) k) (ln (g * 2 + w))
def fo (f : Nat → Nat) (k : Nat) : Nat → Int32
  | 0 => -1
  | i + 1 => if f i = k then nI i else fo f k i
def sm (nb : Nat → Bool) (v : Nat → UInt64) (a b : Nat) : Nat → Nat
  | 0 => 2
  | i + 1 => Nat.min (sm nb v a b i) (lk nb v (a * 12 + i) (b * 12 + i))
theorem sm_le (nb : Nat → Bool) (v : Nat → UInt64) (a b : Nat) : ∀ i, sm nb v a b i ≤ 2
  | 0 => Nat.le_refl _
  | i + 1 => Nat.le_trans (Nat.min_le_left _ _) (sm_le nb v a b i)
def saC (nb : Nat → Bool) (v : Nat → UInt64) (ln : Nat → Nat) (g h : Nat) : Nat := if ln (g * 2 + 0) = ln (h * 2 + 0) then sm nb v (g * 2 + 0) (h * 2 + 0) (ln (g * 2 + 0)) else 0
set_option maxHeartbeats 4000000 in
set_option maxRecDepth 100000 in
theorem c_X0_level_x (l : Launch) (D : va_G) (h0 hn hd hq : Nat) (cZ cD cI : ClassId) (nb : Nat → Bool) (v : Nat → UInt64) (ln : Nat → Nat) (go : Bool) (mv : Int32) (hln : ∀ j, ln j ≤ 12) (hl0 : l.stackTraces = false) (sz : Nat) (g : Nat) (x : UInt64) (hg : g < 6) (hlv : lvl x = true) (hrm : ln (g * 2 + 0) < 12) : vx_Met l yX0_level wsX0_level ({ frames := 8, cells := 3, slots := 18, locals := 126 }) (va_Pc [.ref h0, .int (nI g), .double x] (fun U => xOK U ∧ U.heap.size = sz ∧ va_P D vwCl (WB h0 hn hd hq cZ cD cI nb v ln go mv) U.heap ∧ va_K D vwCl (TY cZ cD cI) U ∧ va_D (fun _ => True) (WB h0 hn hd hq cZ cD cI nb v ln go mv))) (wr_Qi (fun r => r = nI (ln (g * 2 + 0) + 1)) (fun H => va_P D vwCl (WB h0 hn hd hq cZ cD cI (up nb ((g * 2 + 0) * 12 + ln (g * 2 + 0)) true) (up v ((g * 2 + 0) * 12 + ln (g * 2 + 0)) x) (up ln (g * 2 + 0) (ln (g * 2 + 0) + 1)) go mv) H) (va_A (WB h0 hn hd hq cZ cD cI nb v ln go mv) sz)) (rd_X (fun E => False)) 3 18 (va_A (WB h0 hn hd hq cZ cD cI nb v ln go mv) sz) := by
  refine vx_ofW (cc := cX0_level) (maxL := 4) (ret := some .int) (by decide) rfl ?_
  intro p e s m args below meth c s₁ B hml hno hv
  obtain ⟨rfl, hX, hsz_, hP, hK, hD0⟩ := hv
  have hx := B.exec
  have hb := B.bytes
  have hr := B.returns
  have hts := atoms_spec (ws := wsX0_level) B.pre
  have hown : s.vm.findClass RX0 = some m.cls := findClass_of_methodNamed B.named
  have hlocks := B.notSynchronized
  subst hsz_
  have hD := hD0.self (sz := s.heap.size)
  generalize hAe : va_A (WB h0 hn hd hq cZ cD cI nb v ln go mv) s.heap.size = A at hD ⊢
  have hA : ∀ q : Nat, s.heap.size ≤ q → A q := fun q h => by rw [← hAe]; exact Or.inr h
  have hS : va_S A s.heap s.heap [] := va_S.rf
  have hl := lv_entry ([.ref h0, .int (nI g), .double x]) (n := 4) (Nat.le_of_ble_eq_true rfl)
  rw [lg_entry_eq]
  generalize (lg_sl ([.ref h0, .int (nI g), .double x]) ++ List.replicate (4 - (lg_sl ([.ref h0, .int (nI g), .double x])).length) Slot.unset).toArray = ls at hl ⊢
  have hl : lv_has ls 4 [(0, .ref h0), (1, .int (nI g)), (2, .double x)] := hl
  refine lv_iload_n hx hb dX0_level_0 rfl (lv_at hl 1 rfl) ?_
  refine kx_callv (vx_runS (As := [.int (nI g)]) (rest := []) ⟨hx, hb, hml, hown, hts⟩ (c_X0_needGauge l hl0 (nI g) ) (va_cwS 1 hts gX0_level_X0_needGauge rfl rfl rfl (by decide +kernel) ⟨Nat.le_of_ble_eq_true rfl, Nat.le_of_ble_eq_true rfl⟩) ⟨fun a U g mk q => ⟨q.1, xOK_call q.2 g mk a⟩, fun U hU hW => ⟨rfl, xOK_at hX hU hW⟩⟩ rfl rfl hl.1 rfl (lv_room (Nat.le_of_ble_eq_true rfl)) dX0_level_1 ⟨Nat.le_of_ble_eq_true rfl, Nat.le_of_ble_eq_true rfl⟩) hno hlocks (fun E hE => (hE.2 ⟨g, by omega, rfl⟩).elim) (Nat.le_of_ble_eq_true rfl) (Nat.le_of_ble_eq_true rfl) (fun h_1 => ?_)
  refine lv_dload_n hx hb dX0_level_4 rfl (lv_at hl 2 rfl) ?_
  refine kx_callv (vx_runS (As := [.double x]) (rest := []) ⟨hx, hb, hml, hown, hts⟩ (c_X0_needLevel l hl0 x ) (va_cwS 1 hts gX0_level_X0_needLevel rfl rfl rfl (by decide +kernel) ⟨Nat.le_of_ble_eq_true rfl, Nat.le_of_ble_eq_true rfl⟩) ⟨fun a U g mk q => ⟨q.1, xOK_call q.2 g mk a⟩, fun U hU hW => ⟨rfl, xOK_at hX hU hW⟩⟩ rfl rfl hl.1 rfl (lv_room (Nat.le_of_ble_eq_true rfl)) dX0_level_5 ⟨Nat.le_of_ble_eq_true rfl, Nat.le_of_ble_eq_true rfl⟩) hno hlocks (fun E hE => absurd (hlv.symm.trans hE.2) (by decide)) (Nat.le_of_ble_eq_true rfl) (Nat.le_of_ble_eq_true rfl) (fun h_2 => ?_)
  refine lv_aload_n hx hb dX0_level_8 rfl (lv_at hl 0 rfl) ?_
  refine lv_iload_n hx hb dX0_level_9 rfl (lv_at hl 1 rfl) ?_
  refine lv_iconst (v := nI 0) hx hb dX0_level_10 (by decide) ?_
  refine rd_calli (va_runS (As := [.int (nI g), .int (nI 0)]) (rest := [.ref h0]) ⟨hx, hb, hml, hown, hts⟩ (c_X0_stripOf l g 0 ) (va_cwS 2 hts gX0_level_X0_stripOf rfl rfl rfl (by decide +kernel) ⟨Nat.le_of_ble_eq_true rfl, Nat.le_of_ble_eq_true rfl⟩) ⟨fun a U g mk q => q, fun U hU hW => ⟨rfl, trivial⟩⟩ rfl rfl hl.1 rfl (lv_room (Nat.le_of_ble_eq_true rfl)) dX0_level_11 ⟨Nat.le_of_ble_eq_true rfl, Nat.le_of_ble_eq_true rfl⟩) (fun r_3 hr_3 => ?_)
  subst hr_3
  refine lv_dload_n hx hb dX0_level_14 rfl (lv_at hl 2 rfl) ?_
  have hFc := va_free (wc := WB h0 hn hd hq cZ cD cI nb v ln go mv) hD hS hA [0, 1, 2, 3] rfl
  refine wr_calli (va_runV (As := [.int (nI (g * 2 + 0)), .double x]) (rest := []) ⟨hx, hb, hml, hown, hts⟩ (c_X0_appendNumber l D h0 hn hd hq cZ cD cI nb v ln go mv hln hl0 s.heap.size (g * 2 + 0) x (by omega) hrm) (cwV 2 hts gX0_level_X0_appendNumber rfl rfl rfl (by decide +kernel) ⟨Nat.le_of_ble_eq_true rfl, Nat.le_of_ble_eq_true rfl⟩) ⟨fun a U g mk q => ⟨q.1, xOK_call q.2.1 g mk a, q.2.2.1, q.2.2.2.1, va_K.moved (u := U) (U := U.calling g mk a) (Vm.Alike.refl U.vm) q.2.2.2.2.1, q.2.2.2.2.2⟩, va_recv hK hP (ci := 1) (q0 := 0) rfl rfl, fun U hU hW => ⟨rfl, xOK_at hX hU hW, by rw [hU], by rw [hU]; exact hP, va_K.moved hW.alike hK, hD.weaken (fun _ _ _ _ => trivial)⟩⟩ rfl rfl hl.1 rfl (lv_room (Nat.le_of_ble_eq_true rfl)) dX0_level_15 ⟨Nat.le_of_ble_eq_true rfl, Nat.le_of_ble_eq_true rfl⟩) hS hFc (fun r_4 H locs hr_4 hP _ _ hS => ?_)
  subst hr_4
  have hln_5 : ∀ j, (up ln (g * 2 + 0) (ln (g * 2 + 0) + 1)) j ≤ 12 := up_le hln (by omega)
  have hD : va_D A (WB h0 hn hd hq cZ cD cI (up nb ((g * 2 + 0) * 12 + ln (g * 2 + 0)) true) (up v ((g * 2 + 0) * 12 + ln (g * 2 + 0)) x) (up ln (g * 2 + 0) (ln (g * 2 + 0) + 1)) go mv) := va_D_same (ws := WB h0 hn hd hq cZ cD cI nb v ln go mv) rfl hD
  have hP : va_P D vwCl (WB h0 hn hd hq cZ cD cI (up nb ((g * 2 + 0) * 12 + ln (g * 2 + 0)) true) (up v ((g * 2 + 0) * 12 + ln (g * 2 + 0)) x) (up ln (g * 2 + 0) (ln (g * 2 + 0) + 1)) go mv) H := hP
  refine vx_ret ?_
  refine W.widen (k := 3) (n := 18) (Nat.le_of_ble_eq_true rfl) (Nat.le_of_ble_eq_true rfl) ?_
  exact W.iret (v := nI (ln (g * 2 + 0) + 1)) hx hb hr (fun t9 ht9 hW9 => ⟨⟨_, rfl, rfl, by rw [ht9]; exact hP⟩, hS.F ht9⟩) hS.2.2 dX0_level_18
theorem c_X0_level (l : Launch) (D : va_G) (h0 hn hd hq : Nat) (cZ cD cI : ClassId) (nb : Nat → Bool) (v : Nat → UInt64) (ln : Nat → Nat) (go : Bool) (mv : Int32) (hln : ∀ j, ln j ≤ 12) (hl0 : l.stackTraces = false) (sz : Nat) (g : Nat) (x : UInt64) (hg : g < 6) (hlv : lvl x = true) (hrm : ln (g * 2 + 0) < 12) : Met l yX0_level wsX0_level ({ frames := 8, cells := 3, slots := 18, locals := 126 }) (va_Pc [.ref h0, .int (nI g), .double x] (fun U => xOK U ∧ U.heap.size = sz ∧ va_P D vwCl (WB h0 hn hd hq cZ cD cI nb v ln go mv) U.heap ∧ va_K D vwCl (TY cZ cD cI) U ∧ va_D (fun _ => True) (WB h0 hn hd hq cZ cD cI nb v ln go mv))) (wr_Qi (fun r => r = nI (ln (g * 2 + 0) + 1)) (fun H => va_P D vwCl (WB h0 hn hd hq cZ cD cI (up nb ((g * 2 + 0) * 12 + ln (g * 2 + 0)) true) (up v ((g * 2 + 0) * 12 + ln (g * 2 + 0)) x) (up ln (g * 2 + 0) (ln (g * 2 + 0) + 1)) go mv) H) (va_A (WB h0 hn hd hq cZ cD cI nb v ln go mv) sz)) 3 18 (va_A (WB h0 hn hd hq cZ cD cI nb v ln go mv) sz) := met_of_ok (c_X0_level_x l D h0 hn hd hq cZ cD cI nb v ln go mv hln hl0 sz g x hg hlv hrm)
set_option maxHeartbeats 4000000 in
set_option maxRecDepth 100000 in
theorem c_X0_level_full (l : Launch) (D : va_G) (h0 hn hd hq : Nat) (cZ cD cI : ClassId) (nb : Nat → Bool) (v : Nat → UInt64) (ln : Nat → Nat) (go : Bool) (mv : Int32) (hln : ∀ j, ln j ≤ 12) (hl0 : l.stackTraces = false) (g : Nat) (x : UInt64) (hg : g < 6) (hlv : lvl x = true) (hfull : ln (g * 2 + 0) = 12) : vx_Met l yX0_level wsX0_level ({ frames := 8, cells := 3, slots := 18, locals := 126 }) (va_Pc [.ref h0, .int (nI g), .double x] (fun U => xOK U ∧ va_P D vwCl (WB h0 hn hd hq cZ cD cI nb v ln go mv) U.heap ∧ va_K D vwCl (TY cZ cD cI) U)) (fun _ _ _ _ => False) (rd_X (fun E => E = ISE)) 3 18 (fun _ => False) := by
  refine vx_ofW (cc := cX0_level) (maxL := 4) (ret := some .int) (by decide) rfl ?_
  intro p e s m args below meth c s₁ B hml hno hv
  obtain ⟨rfl, hX, hP, hK⟩ := hv
  have hx := B.exec
  have hb := B.bytes
  have hr := B.returns
  have hts := atoms_spec (ws := wsX0_level) B.pre
  have hown : s.vm.findClass RX0 = some m.cls := findClass_of_methodNamed B.named
  have hlocks := B.notSynchronized
  have hl := lv_entry ([.ref h0, .int (nI g), .double x]) (n := 4) (Nat.le_of_ble_eq_true rfl)
  rw [lg_entry_eq]
  generalize (lg_sl ([.ref h0, .int (nI g), .double x]) ++ List.replicate (4 - (lg_sl ([.ref h0, .int (nI g), .double x])).length) Slot.unset).toArray = ls at hl ⊢
  have hl : lv_has ls 4 [(0, .ref h0), (1, .int (nI g)), (2, .double x)] := hl
  refine lv_iload_n hx hb dX0_level_0 rfl (lv_at hl 1 rfl) ?_
  refine kx_callv (vx_runS (As := [.int (nI g)]) (rest := []) ⟨hx, hb, hml, hown, hts⟩ (c_X0_needGauge l hl0 (nI g) ) (va_cwS 1 hts gX0_level_X0_needGauge rfl rfl rfl (by decide +kernel) ⟨Nat.le_of_ble_eq_true rfl, Nat.le_of_ble_eq_true rfl⟩) ⟨fun a U g mk q => ⟨q.1, xOK_call q.2 g mk a⟩, fun U hU hW => ⟨rfl, xOK_at hX hU hW⟩⟩ rfl rfl hl.1 rfl (lv_room (Nat.le_of_ble_eq_true rfl)) dX0_level_1 ⟨Nat.le_of_ble_eq_true rfl, Nat.le_of_ble_eq_true rfl⟩) hno hlocks (fun E hE => (hE.2 ⟨g, by omega, rfl⟩).elim) (Nat.le_of_ble_eq_true rfl) (Nat.le_of_ble_eq_true rfl) (fun h_1 => ?_)
  refine lv_dload_n hx hb dX0_level_4 rfl (lv_at hl 2 rfl) ?_
  refine kx_callv (vx_runS (As := [.double x]) (rest := []) ⟨hx, hb, hml, hown, hts⟩ (c_X0_needLevel l hl0 x ) (va_cwS 1 hts gX0_level_X0_needLevel rfl rfl rfl (by decide +kernel) ⟨Nat.le_of_ble_eq_true rfl, Nat.le_of_ble_eq_true rfl⟩) ⟨fun a U g mk q => ⟨q.1, xOK_call q.2 g mk a⟩, fun U hU hW => ⟨rfl, xOK_at hX hU hW⟩⟩ rfl rfl hl.1 rfl (lv_room (Nat.le_of_ble_eq_true rfl)) dX0_level_5 ⟨Nat.le_of_ble_eq_true rfl, Nat.le_of_ble_eq_true rfl⟩) hno hlocks (fun E hE => absurd (hlv.symm.trans hE.2) (by decide)) (Nat.le_of_ble_eq_true rfl) (Nat.le_of_ble_eq_true rfl) (fun h_2 => ?_)
  refine lv_aload_n hx hb dX0_level_8 rfl (lv_at hl 0 rfl) ?_
  refine lv_iload_n hx hb dX0_level_9 rfl (lv_at hl 1 rfl) ?_
  refine lv_iconst (v := nI 0) hx hb dX0_level_10 (by decide) ?_
  refine rd_calli (va_runS (As := [.int (nI g), .int (nI 0)]) (rest := [.ref h0]) ⟨hx, hb, hml, hown, hts⟩ (c_X0_stripOf l g 0 ) (va_cwS 2 hts gX0_level_X0_stripOf rfl rfl rfl (by decide +kernel) ⟨Nat.le_of_ble_eq_true rfl, Nat.le_of_ble_eq_true rfl⟩) ⟨fun a U g mk q => q, fun U hU hW => ⟨rfl, trivial⟩⟩ rfl rfl hl.1 rfl (lv_room (Nat.le_of_ble_eq_true rfl)) dX0_level_11 ⟨Nat.le_of_ble_eq_true rfl, Nat.le_of_ble_eq_true rfl⟩) (fun r_3 hr_3 => ?_)
  subst hr_3
  refine lv_dload_n hx hb dX0_level_14 rfl (lv_at hl 2 rfl) ?_
  exact kn_never (vx_runV (As := [.int (nI (g * 2 + 0)), .double x]) (rest := []) ⟨hx, hb, hml, hown, hts⟩ (c_X0_appendNumber_full l D h0 hn hd hq cZ cD cI nb v ln go mv hln hl0 (g * 2 + 0) x (by omega) hfull) (cwV 2 hts gX0_level_X0_appendNumber rfl rfl rfl (by decide +kernel) ⟨Nat.le_of_ble_eq_true rfl, Nat.le_of_ble_eq_true rfl⟩) ⟨fun a U g mk q => ⟨q.1, xOK_call q.2.1 g mk a, q.2.2.1, va_K.moved (u := U) (U := U.calling g mk a) (Vm.Alike.refl U.vm) q.2.2.2⟩, va_recv hK hP (ci := 1) (q0 := 0) rfl rfl, fun U hU hW => ⟨rfl, xOK_at hX hU hW, by rw [hU]; exact hP, va_K.moved hW.alike hK⟩⟩ rfl rfl hl.1 rfl (lv_room (Nat.le_of_ble_eq_true rfl)) dX0_level_15 ⟨Nat.le_of_ble_eq_true rfl, Nat.le_of_ble_eq_true rfl⟩) hno hlocks (fun E hE => hE) (Nat.le_of_ble_eq_true rfl) (Nat.le_of_ble_eq_true rfl)
set_option maxHeartbeats 4000000 in
set_option maxRecDepth 100000 in
theorem c_X0_wind_x (l : Launch) (D : va_G) (h0 hn hd hq : Nat) (cZ cD cI : ClassId) (nb : Nat → Bool) (v : Nat → UInt64) (ln : Nat → Nat) (go : Bool) (mv : Int32) (hln : ∀ j, ln j ≤ 12) (hl0 : l.stackTraces = false) (sz : Nat) (g : Nat) (x : UInt32) (hg : g < 6) (hlv : wnd x = true) (hrm : ln (g * 2 + 1) < 12) : vx_Met l yX0_wind wsX0_wind ({ frames := 8, cells := 3, slots := 18, locals := 126 }) (va_Pc [.ref h0, .int (nI g), .float x] (fun U => xOK U ∧ U.heap.size = sz ∧ va_P D vwCl (WB h0 hn hd hq cZ cD cI nb v ln go mv) U.heap ∧ va_K D vwCl (TY cZ cD cI) U ∧ va_D (fun _ => True) (WB h0 hn hd hq cZ cD cI nb v ln go mv))) (wr_Qi (fun r => r = nI (ln (g * 2 + 1) + 1)) (fun H => va_P D vwCl (WB h0 hn hd hq cZ cD cI (up nb ((g * 2 + 1) * 12 + ln (g * 2 + 1)) true) (up v ((g * 2 + 1) * 12 + ln (g * 2 + 1)) (FP.f2d x)) (up ln (g * 2 + 1) (ln (g * 2 + 1) + 1)) go mv) H) (va_A (WB h0 hn hd hq cZ cD cI nb v ln go mv) sz)) (rd_X (fun E => False)) 3 18 (va_A (WB h0 hn hd hq cZ cD cI nb v ln go mv) sz) := by
  refine vx_ofW (cc := cX0_wind) (maxL := 3) (ret := some .int) (by decide) rfl ?_
  intro p e s m args below meth c s₁ B hml hno hv
  obtain ⟨rfl, hX, hsz_, hP, hK, hD0⟩ := hv
  have hx := B.exec
  have hb := B.bytes
  have hr := B.returns
  have hts := atoms_spec (ws := wsX0_wind) B.pre
  have hown : s.vm.findClass RX0 = some m.cls := findClass_of_methodNamed B.named
  have hlocks := B.notSynchronized
  subst hsz_
  have hD := hD0.self (sz := s.heap.size)
  generalize hAe : va_A (WB h0 hn hd hq cZ cD cI nb v ln go mv) s.heap.size = A at hD ⊢
  have hA : ∀ q : Nat, s.heap.size ≤ q → A q := fun q h => by rw [← hAe]; exact Or.inr h
  have hS : va_S A s.heap s.heap [] := va_S.rf
  have hl := lv_entry ([.ref h0, .int (nI g), .float x]) (n := 3) (Nat.le_of_ble_eq_true rfl)
  rw [lg_entry_eq]
  generalize (lg_sl ([.ref h0, .int (nI g), .float x]) ++ List.replicate (3 - (lg_sl ([.ref h0, .int (nI g), .float x])).length) Slot.unset).toArray = ls at hl ⊢
  have hl : lv_has ls 3 [(0, .ref h0), (1, .int (nI g)), (2, .float x)] := hl
  refine lv_iload_n hx hb dX0_wind_0 rfl (lv_at hl 1 rfl) ?_
  refine kx_callv (vx_runS (As := [.int (nI g)]) (rest := []) ⟨hx, hb, hml, hown, hts⟩ (c_X0_needGauge l hl0 (nI g) ) (va_cwS 1 hts gX0_wind_X0_needGauge rfl rfl rfl (by decide +kernel) ⟨Nat.le_of_ble_eq_true rfl, Nat.le_of_ble_eq_true rfl⟩) ⟨fun a U g mk q => ⟨q.1, xOK_call q.2 g mk a⟩, fun U hU hW => ⟨rfl, xOK_at hX hU hW⟩⟩ rfl rfl hl.1 rfl (lv_room (Nat.le_of_ble_eq_true rfl)) dX0_wind_1 ⟨Nat.le_of_ble_eq_true rfl, Nat.le_of_ble_eq_true rfl⟩) hno hlocks (fun E hE => (hE.2 ⟨g, by omega, rfl⟩).elim) (Nat.le_of_ble_eq_true rfl) (Nat.le_of_ble_eq_true rfl) (fun h_1 => ?_)
  refine lv_fload_n hx hb dX0_wind_4 rfl (lv_at hl 2 rfl) ?_
  refine kx_callv (vx_runS (As := [.float x]) (rest := []) ⟨hx, hb, hml, hown, hts⟩ (c_X0_needWind l hl0 x ) (va_cwS 1 hts gX0_wind_X0_needWind rfl rfl rfl (by decide +kernel) ⟨Nat.le_of_ble_eq_true rfl, Nat.le_of_ble_eq_true rfl⟩) ⟨fun a U g mk q => ⟨q.1, xOK_call q.2 g mk a⟩, fun U hU hW => ⟨rfl, xOK_at hX hU hW⟩⟩ rfl rfl hl.1 rfl (lv_room (Nat.le_of_ble_eq_true rfl)) dX0_wind_5 ⟨Nat.le_of_ble_eq_true rfl, Nat.le_of_ble_eq_true rfl⟩) hno hlocks (fun E hE => absurd (hlv.symm.trans hE.2) (by decide)) (Nat.le_of_ble_eq_true rfl) (Nat.le_of_ble_eq_true rfl) (fun h_2 => ?_)
  refine lv_aload_n hx hb dX0_wind_8 rfl (lv_at hl 0 rfl) ?_
  refine lv_iload_n hx hb dX0_wind_9 rfl (lv_at hl 1 rfl) ?_
  refine lv_iconst (v := nI 1) hx hb dX0_wind_10 (by decide) ?_
  refine rd_calli (va_runS (As := [.int (nI g), .int (nI 1)]) (rest := [.ref h0]) ⟨hx, hb, hml, hown, hts⟩ (c_X0_stripOf l g 1 ) (va_cwS 2 hts gX0_wind_X0_stripOf rfl rfl rfl (by decide +kernel) ⟨Nat.le_of_ble_eq_true rfl, Nat.le_of_ble_eq_true rfl⟩) ⟨fun a U g mk q => q, fun U hU hW => ⟨rfl, trivial⟩⟩ rfl rfl hl.1 rfl (lv_room (Nat.le_of_ble_eq_true rfl)) dX0_wind_11 ⟨Nat.le_of_ble_eq_true rfl, Nat.le_of_ble_eq_true rfl⟩) (fun r_3 hr_3 => ?_)
  subst hr_3
  refine lv_fload_n hx hb dX0_wind_14 rfl (lv_at hl 2 rfl) ?_
  refine lv_f2d hx hb dX0_wind_15 (f2d_n hlv) ?_
  have hFc := va_free (wc := WB h0 hn hd hq cZ cD cI nb v ln go mv) hD hS hA [0, 1, 2, 3] rfl
  refine wr_calli (va_runV (As := [.int (nI (g * 2 + 1)), .double (FP.f2d x)]) (rest := []) ⟨hx, hb, hml, hown, hts⟩ (c_X0_appendNumber l D h0 hn hd hq cZ cD cI nb v ln go mv hln hl0 s.heap.size (g * 2 + 1) (FP.f2d x) (by omega) hrm) (cwV 2 hts gX0_wind_X0_appendNumber rfl rfl rfl (by decide +kernel) ⟨Nat.le_of_ble_eq_true rfl, Nat.le_of_ble_eq_true rfl⟩) ⟨fun a U g mk q => ⟨q.1, xOK_call q.2.1 g mk a, q.2.2.1, q.2.2.2.1, va_K.moved (u := U) (U := U.calling g mk a) (Vm.Alike.refl U.vm) q.2.2.2.2.1, q.2.2.2.2.2⟩, va_recv hK hP (ci := 1) (q0 := 0) rfl rfl, fun U hU hW => ⟨rfl, xOK_at hX hU hW, by rw [hU], by rw [hU]; exact hP, va_K.moved hW.alike hK, hD.weaken (fun _ _ _ _ => trivial)⟩⟩ rfl rfl hl.1 rfl (lv_room (Nat.le_of_ble_eq_true rfl)) dX0_wind_16 ⟨Nat.le_of_ble_eq_true rfl, Nat.le_of_ble_eq_true rfl⟩) hS hFc (fun r_4 H locs hr_4 hP _ _ hS => ?_)
  subst hr_4
  have hln_5 : ∀ j, (up ln (g * 2 + 1) (ln (g * 2 + 1) + 1)) j ≤ 12 := up_le hln (by omega)
  have hD : va_D A (WB h0 hn hd hq cZ cD cI (up nb ((g * 2 + 1) * 12 + ln (g * 2 + 1)) true) (up v ((g * 2 + 1) * 12 + ln (g * 2 + 1)) (FP.f2d x)) (up ln (g * 2 + 1) (ln (g * 2 + 1) + 1)) go mv) := va_D_same (ws := WB h0 hn hd hq cZ cD cI nb v ln go mv) rfl hD
  have hP : va_P D vwCl (WB h0 hn hd hq cZ cD cI (up nb ((g * 2 + 1) * 12 + ln (g * 2 + 1)) true) (up v ((g * 2 + 1) * 12 + ln (g * 2 + 1)) (FP.f2d x)) (up ln (g * 2 + 1) (ln (g * 2 + 1) + 1)) go mv) H := hP
  refine vx_ret ?_
  refine W.widen (k := 3) (n := 18) (Nat.le_of_ble_eq_true rfl) (Nat.le_of_ble_eq_true rfl) ?_
  exact W.iret (v := nI (ln (g * 2 + 1) + 1)) hx hb hr (fun t9 ht9 hW9 => ⟨⟨_, rfl, rfl, by rw [ht9]; exact hP⟩, hS.F ht9⟩) hS.2.2 dX0_wind_19
theorem c_X0_wind (l : Launch) (D : va_G) (h0 hn hd hq : Nat) (cZ cD cI : ClassId) (nb : Nat → Bool) (v : Nat → UInt64) (ln : Nat → Nat) (go : Bool) (mv : Int32) (hln : ∀ j, ln j ≤ 12) (hl0 : l.stackTraces = false) (sz : Nat) (g : Nat) (x : UInt32) (hg : g < 6) (hlv : wnd x = true) (hrm : ln (g * 2 + 1) < 12) : Met l yX0_wind wsX0_wind ({ frames := 8, cells := 3, slots := 18, locals := 126 }) (va_Pc [.ref h0, .int (nI g), .float x] (fun U => xOK U ∧ U.heap.size = sz ∧ va_P D vwCl (WB h0 hn hd hq cZ cD cI nb v ln go mv) U.heap ∧ va_K D vwCl (TY cZ cD cI) U ∧ va_D (fun _ => True) (WB h0 hn hd hq cZ cD cI nb v ln go mv))) (wr_Qi (fun r => r = nI (ln (g * 2 + 1) + 1)) (fun H => va_P D vwCl (WB h0 hn hd hq cZ cD cI (up nb ((g * 2 + 1) * 12 + ln (g * 2 + 1)) true) (up v ((g * 2 + 1) * 12 + ln (g * 2 + 1)) (FP.f2d x)) (up ln (g * 2 + 1) (ln (g * 2 + 1) + 1)) go mv) H) (va_A (WB h0 hn hd hq cZ cD cI nb v ln go mv) sz)) 3 18 (va_A (WB h0 hn hd hq cZ cD cI nb v ln go mv) sz) := met_of_ok (c_X0_wind_x l D h0 hn hd hq cZ cD cI nb v ln go mv hln hl0 sz g x hg hlv hrm)
set_option maxHeartbeats 4000000 in
set_option maxRecDepth 100000 in
theorem c_X0_wind_full (l : Launch) (D : va_G) (h0 hn hd hq : Nat) (cZ cD cI : ClassId) (nb : Nat → Bool) (v : Nat → UInt64) (ln : Nat → Nat) (go : Bool) (mv : Int32) (hln : ∀ j, ln j ≤ 12) (hl0 : l.stackTraces = false) (g : Nat) (x : UInt32) (hg : g < 6) (hlv : wnd x = true) (hfull : ln (g * 2 + 1) = 12) : vx_Met l yX0_wind wsX0_wind ({ frames := 8, cells := 3, slots := 18, locals := 126 }) (va_Pc [.ref h0, .int (nI g), .float x] (fun U => xOK U ∧ va_P D vwCl (WB h0 hn hd hq cZ cD cI nb v ln go mv) U.heap ∧ va_K D vwCl (TY cZ cD cI) U)) (fun _ _ _ _ => False) (rd_X (fun E => E = ISE)) 3 18 (fun _ => False) := by
  refine vx_ofW (cc := cX0_wind) (maxL := 3) (ret := some .int) (by decide) rfl ?_
  intro p e s m args below meth c s₁ B hml hno hv
  obtain ⟨rfl, hX, hP, hK⟩ := hv
  have hx := B.exec
  have hb := B.bytes
  have hr := B.returns
  have hts := atoms_spec (ws := wsX0_wind) B.pre
  have hown : s.vm.findClass RX0 = some m.cls := findClass_of_methodNamed B.named
  have hlocks := B.notSynchronized
  have hl := lv_entry ([.ref h0, .int (nI g), .float x]) (n := 3) (Nat.le_of_ble_eq_true rfl)
  rw [lg_entry_eq]
  generalize (lg_sl ([.ref h0, .int (nI g), .float x]) ++ List.replicate (3 - (lg_sl ([.ref h0, .int (nI g), .float x])).length) Slot.unset).toArray = ls at hl ⊢
  have hl : lv_has ls 3 [(0, .ref h0), (1, .int (nI g)), (2, .float x)] := hl
  refine lv_iload_n hx hb dX0_wind_0 rfl (lv_at hl 1 rfl) ?_
  refine kx_callv (vx_runS (As := [.int (nI g)]) (rest := []) ⟨hx, hb, hml, hown, hts⟩ (c_X0_needGauge l hl0 (nI g) ) (va_cwS 1 hts gX0_wind_X0_needGauge rfl rfl rfl (by decide +kernel) ⟨Nat.le_of_ble_eq_true rfl, Nat.le_of_ble_eq_true rfl⟩) ⟨fun a U g mk q => ⟨q.1, xOK_call q.2 g mk a⟩, fun U hU hW => ⟨rfl, xOK_at hX hU hW⟩⟩ rfl rfl hl.1 rfl (lv_room (Nat.le_of_ble_eq_true rfl)) dX0_wind_1 ⟨Nat.le_of_ble_eq_true rfl, Nat.le_of_ble_eq_true rfl⟩) hno hlocks (fun E hE => (hE.2 ⟨g, by omega, rfl⟩).elim) (Nat.le_of_ble_eq_true rfl) (Nat.le_of_ble_eq_true rfl) (fun h_1 => ?_)
  refine lv_fload_n hx hb dX0_wind_4 rfl (lv_at hl 2 rfl) ?_
  refine kx_callv (vx_runS (As := [.float x]) (rest := []) ⟨hx, hb, hml, hown, hts⟩ (c_X0_needWind l hl0 x ) (va_cwS 1 hts gX0_wind_X0_needWind rfl rfl rfl (by decide +kernel) ⟨Nat.le_of_ble_eq_true rfl, Nat.le_of_ble_eq_true rfl⟩) ⟨fun a U g mk q => ⟨q.1, xOK_call q.2 g mk a⟩, fun U hU hW => ⟨rfl, xOK_at hX hU hW⟩⟩ rfl rfl hl.1 rfl (lv_room (Nat.le_of_ble_eq_true rfl)) dX0_wind_5 ⟨Nat.le_of_ble_eq_true rfl, Nat.le_of_ble_eq_true rfl⟩) hno hlocks (fun E hE => absurd (hlv.symm.trans hE.2) (by decide)) (Nat.le_of_ble_eq_true rfl) (Nat.le_of_ble_eq_true rfl) (fun h_2 => ?_)
  refine lv_aload_n hx hb dX0_wind_8 rfl (lv_at hl 0 rfl) ?_
  refine lv_iload_n hx hb dX0_wind_9 rfl (lv_at hl 1 rfl) ?_
  refine lv_iconst (v := nI 1) hx hb dX0_wind_10 (by decide) ?_
  refine rd_calli (va_runS (As := [.int (nI g), .int (nI 1)]) (rest := [.ref h0]) ⟨hx, hb, hml, hown, hts⟩ (c_X0_stripOf l g 1 ) (va_cwS 2 hts gX0_wind_X0_stripOf rfl rfl rfl (by decide +kernel) ⟨Nat.le_of_ble_eq_true rfl, Nat.le_of_ble_eq_true rfl⟩) ⟨fun a U g mk q => q, fun U hU hW => ⟨rfl, trivial⟩⟩ rfl rfl hl.1 rfl (lv_room (Nat.le_of_ble_eq_true rfl)) dX0_wind_11 ⟨Nat.le_of_ble_eq_true rfl, Nat.le_of_ble_eq_true rfl⟩) (fun r_3 hr_3 => ?_)
  subst hr_3
  refine lv_fload_n hx hb dX0_wind_14 rfl (lv_at hl 2 rfl) ?_
  refine lv_f2d hx hb dX0_wind_15 (f2d_n hlv) ?_
  exact kn_never (vx_runV (As := [.int (nI (g * 2 + 1)), .double (FP.f2d x)]) (rest := []) ⟨hx, hb, hml, hown, hts⟩ (c_X0_appendNumber_full l D h0 hn hd hq cZ cD cI nb v ln go mv hln hl0 (g * 2 + 1) (FP.f2d x) (by omega) hfull) (cwV 2 hts gX0_wind_X0_appendNumber rfl rfl rfl (by decide +kernel) ⟨Nat.le_of_ble_eq_true rfl, Nat.le_of_ble_eq_true rfl⟩) ⟨fun a U g mk q => ⟨q.1, xOK_call q.2.1 g mk a, q.2.2.1, va_K.moved (u := U) (U := U.calling g mk a) (Vm.Alike.refl U.vm) q.2.2.2⟩, va_recv hK hP (ci := 1) (q0 := 0) rfl rfl, fun U hU hW => ⟨rfl, xOK_at hX hU hW, by rw [hU]; exact hP, va_K.moved hW.alike hK⟩⟩ rfl rfl hl.1 rfl (lv_room (Nat.le_of_ble_eq_true rfl)) dX0_wind_16 ⟨Nat.le_of_ble_eq_true rfl, Nat.le_of_ble_eq_true rfl⟩) hno hlocks (fun E hE => hE) (Nat.le_of_ble_eq_true rfl) (Nat.le_of_ble_eq_true rfl)
set_option maxHeartbeats 4000000 in
set_option maxRecDepth 100000 in
theorem c_X0_out_x (l : Launch) (D : va_G) (h0 hn hd hq : Nat) (cZ cD cI : ClassId) (nb : Nat → Bool) (v : Nat → UInt64) (ln : Nat → Nat) (go : Bool) (mv : Int32) (hln : ∀ j, ln j ≤ 12) (hl0 : l.stackTraces = false) (sz : Nat) (g : Nat) (w : Nat) (hg : g < 6) (hw : w < 2) (hrm : ln (g * 2 + w) < 12) : vx_Met l yX0_out wsX0_out ({ frames := 8, cells := 3, slots := 18, locals := 124 }) (va_Pc [.ref h0, .int (nI g), .int (nI w)] (fun U => xOK U ∧ U.heap.size = sz ∧ va_P D vwCl (WB h0 hn hd hq cZ cD cI nb v ln go mv) U.heap ∧ va_K D vwCl (TY cZ cD cI) U ∧ va_D (fun _ => True) (WB h0 hn hd hq cZ cD cI nb v ln go mv))) (wr_Qi (fun r => r = nI (ln (g * 2 + w) + 1)) (fun H => va_P D vwCl (WB h0 hn hd hq cZ cD cI (up nb ((g * 2 + w) * 12 + ln (g * 2 + w)) false) v (up ln (g * 2 + w) (ln (g * 2 + w) + 1)) go mv) H) (va_A (WB h0 hn hd hq cZ cD cI nb v ln go mv) sz)) (rd_X (fun E => False)) 3 18 (va_A (WB h0 hn hd hq cZ cD cI nb v ln go mv) sz) := by
  refine vx_ofW (cc := cX0_out) (maxL := 3) (ret := some .int) (by decide) rfl ?_
  intro p e s m args below meth c s₁ B hml hno hv
  obtain ⟨rfl, hX, hsz_, hP, hK, hD0⟩ := hv
  have hx := B.exec
  have hb := B.bytes
  have hr := B.returns
  have hts := atoms_spec (ws := wsX0_out) B.pre
  have hown : s.vm.findClass RX0 = some m.cls := findClass_of_methodNamed B.named
  have hlocks := B.notSynchronized
  subst hsz_
  have hD := hD0.self (sz := s.heap.size)
  generalize hAe : va_A (WB h0 hn hd hq cZ cD cI nb v ln go mv) s.heap.size = A at hD ⊢
  have hA : ∀ q : Nat, s.heap.size ≤ q → A q := fun q h => by rw [← hAe]; exact Or.inr h
  have hS : va_S A s.heap s.heap [] := va_S.rf
  have hl := lv_entry ([.ref h0, .int (nI g), .int (nI w)]) (n := 3) (Nat.le_of_ble_eq_true rfl)
  rw [lg_entry_eq]
  generalize (lg_sl ([.ref h0, .int (nI g), .int (nI w)]) ++ List.replicate (3 - (lg_sl ([.ref h0, .int (nI g), .int (nI w)])).length) Slot.unset).toArray = ls at hl ⊢
  have hl : lv_has ls 3 [(0, .ref h0), (1, .int (nI g)), (2, .int (nI w))] := hl
  refine lv_iload_n hx hb dX0_out_0 rfl (lv_at hl 1 rfl) ?_
  refine kx_callv (vx_runS (As := [.int (nI g)]) (rest := []) ⟨hx, hb, hml, hown, hts⟩ (c_X0_needGauge l hl0 (nI g) ) (va_cwS 1 hts gX0_out_X0_needGauge rfl rfl rfl (by decide +kernel) ⟨Nat.le_of_ble_eq_true rfl, Nat.le_of_ble_eq_true rfl⟩) ⟨fun a U g mk q => ⟨q.1, xOK_call q.2 g mk a⟩, fun U hU hW => ⟨rfl, xOK_at hX hU hW⟩⟩ rfl rfl hl.1 rfl (lv_room (Nat.le_of_ble_eq_true rfl)) dX0_out_1 ⟨Nat.le_of_ble_eq_true rfl, Nat.le_of_ble_eq_true rfl⟩) hno hlocks (fun E hE => (hE.2 ⟨g, by omega, rfl⟩).elim) (Nat.le_of_ble_eq_true rfl) (Nat.le_of_ble_eq_true rfl) (fun h_1 => ?_)
  refine lv_iload_n hx hb dX0_out_4 rfl (lv_at hl 2 rfl) ?_
  refine kx_callv (vx_runS (As := [.int (nI w)]) (rest := []) ⟨hx, hb, hml, hown, hts⟩ (c_X0_needWhat l hl0 (nI w) ) (va_cwS 1 hts gX0_out_X0_needWhat rfl rfl rfl (by decide +kernel) ⟨Nat.le_of_ble_eq_true rfl, Nat.le_of_ble_eq_true rfl⟩) ⟨fun a U g mk q => ⟨q.1, xOK_call q.2 g mk a⟩, fun U hU hW => ⟨rfl, xOK_at hX hU hW⟩⟩ rfl rfl hl.1 rfl (lv_room (Nat.le_of_ble_eq_true rfl)) dX0_out_5 ⟨Nat.le_of_ble_eq_true rfl, Nat.le_of_ble_eq_true rfl⟩) hno hlocks (fun E hE => (hE.2 ⟨w, by omega, rfl⟩).elim) (Nat.le_of_ble_eq_true rfl) (Nat.le_of_ble_eq_true rfl) (fun h_2 => ?_)
  refine lv_aload_n hx hb dX0_out_8 rfl (lv_at hl 0 rfl) ?_
  refine lv_iload_n hx hb dX0_out_9 rfl (lv_at hl 1 rfl) ?_
  refine lv_iload_n hx hb dX0_out_10 rfl (lv_at hl 2 rfl) ?_
  refine rd_calli (va_runS (As := [.int (nI g), .int (nI w)]) (rest := [.ref h0]) ⟨hx, hb, hml, hown, hts⟩ (c_X0_stripOf l g w ) (va_cwS 2 hts gX0_out_X0_stripOf rfl rfl rfl (by decide +kernel) ⟨Nat.le_of_ble_eq_true rfl, Nat.le_of_ble_eq_true rfl⟩) ⟨fun a U g mk q => q, fun U hU hW => ⟨rfl, trivial⟩⟩ rfl rfl hl.1 rfl (lv_room (Nat.le_of_ble_eq_true rfl)) dX0_out_11 ⟨Nat.le_of_ble_eq_true rfl, Nat.le_of_ble_eq_true rfl⟩) (fun r_3 hr_3 => ?_)
  subst hr_3
  have hFc := va_free (wc := WB h0 hn hd hq cZ cD cI nb v ln go mv) hD hS hA [0, 1, 2, 3] rfl
  refine wr_calli (va_runV (As := [.int (nI (g * 2 + w))]) (rest := []) ⟨hx, hb, hml, hown, hts⟩ (c_X0_appendOut l D h0 hn hd hq cZ cD cI nb v ln go mv hln hl0 s.heap.size (g * 2 + w) (by omega) hrm) (cwV 1 hts gX0_out_X0_appendOut rfl rfl rfl (by decide +kernel) ⟨Nat.le_of_ble_eq_true rfl, Nat.le_of_ble_eq_true rfl⟩) ⟨fun a U g mk q => ⟨q.1, xOK_call q.2.1 g mk a, q.2.2.1, q.2.2.2.1, va_K.moved (u := U) (U := U.calling g mk a) (Vm.Alike.refl U.vm) q.2.2.2.2.1, q.2.2.2.2.2⟩, va_recv hK hP (ci := 1) (q0 := 0) rfl rfl, fun U hU hW => ⟨rfl, xOK_at hX hU hW, by rw [hU], by rw [hU]; exact hP, va_K.moved hW.alike hK, hD.weaken (fun _ _ _ _ => trivial)⟩⟩ rfl rfl hl.1 rfl (lv_room (Nat.le_of_ble_eq_true rfl)) dX0_out_14 ⟨Nat.le_of_ble_eq_true rfl, Nat.le_of_ble_eq_true rfl⟩) hS hFc (fun r_4 H locs hr_4 hP _ _ hS => ?_)
  subst hr_4
  have hln_5 : ∀ j, (up ln (g * 2 + w) (ln (g * 2 + w) + 1)) j ≤ 12 := up_le hln (by omega)
  have hD : va_D A (WB h0 hn hd hq cZ cD cI (up nb ((g * 2 + w) * 12 + ln (g * 2 + w)) false) v (up ln (g * 2 + w) (ln (g * 2 + w) + 1)) go mv) := va_D_same (ws := WB h0 hn hd hq cZ cD cI nb v ln go mv) rfl hD
  have hP : va_P D vwCl (WB h0 hn hd hq cZ cD cI (up nb ((g * 2 + w) * 12 + ln (g * 2 + w)) false) v (up ln (g * 2 + w) (ln (g * 2 + w) + 1)) go mv) H := hP
  refine vx_ret ?_
  refine W.widen (k := 3) (n := 18) (Nat.le_of_ble_eq_true rfl) (Nat.le_of_ble_eq_true rfl) ?_
  exact W.iret (v := nI (ln (g * 2 + w) + 1)) hx hb hr (fun t9 ht9 hW9 => ⟨⟨_, rfl, rfl, by rw [ht9]; exact hP⟩, hS.F ht9⟩) hS.2.2 dX0_out_17
theorem c_X0_out (l : Launch) (D : va_G) (h0 hn hd hq : Nat) (cZ cD cI : ClassId) (nb : Nat → Bool) (v : Nat → UInt64) (ln : Nat → Nat) (go : Bool) (mv : Int32) (hln : ∀ j, ln j ≤ 12) (hl0 : l.stackTraces = false) (sz : Nat) (g : Nat) (w : Nat) (hg : g < 6) (hw : w < 2) (hrm : ln (g * 2 + w) < 12) : Met l yX0_out wsX0_out ({ frames := 8, cells := 3, slots := 18, locals := 124 }) (va_Pc [.ref h0, .int (nI g), .int (nI w)] (fun U => xOK U ∧ U.heap.size = sz ∧ va_P D vwCl (WB h0 hn hd hq cZ cD cI nb v ln go mv) U.heap ∧ va_K D vwCl (TY cZ cD cI) U ∧ va_D (fun _ => True) (WB h0 hn hd hq cZ cD cI nb v ln go mv))) (wr_Qi (fun r => r = nI (ln (g * 2 + w) + 1)) (fun H => va_P D vwCl (WB h0 hn hd hq cZ cD cI (up nb ((g * 2 + w) * 12 + ln (g * 2 + w)) false) v (up ln (g * 2 + w) (ln (g * 2 + w) + 1)) go mv) H) (va_A (WB h0 hn hd hq cZ cD cI nb v ln go mv) sz)) 3 18 (va_A (WB h0 hn hd hq cZ cD cI nb v ln go mv) sz) := met_of_ok (c_X0_out_x l D h0 hn hd hq cZ cD cI nb v ln go mv hln hl0 sz g w hg hw hrm)
set_option maxHeartbeats 4000000 in
set_option maxRecDepth 100000 in
theorem c_X0_out_full (l : Launch) (D : va_G) (h0 hn hd hq : Nat) (cZ cD cI : ClassId) (nb : Nat → Bool) (v : Nat → UInt64) (ln : Nat → Nat) (go : Bool) (mv : Int32) (hln : ∀ j, ln j ≤ 12) (hl0 : l.stackTraces = false) (g : Nat) (w : Nat) (hg : g < 6) (hw : w < 2) (hfull : ln (g * 2 + w) = 12) : vx_Met l yX0_out wsX0_out ({ frames := 8, cells := 3, slots := 18, locals := 124 }) (va_Pc [.ref h0, .int (nI g), .int (nI w)] (fun U => xOK U ∧ va_P D vwCl (WB h0 hn hd hq cZ cD cI nb v ln go mv) U.heap ∧ va_K D vwCl (TY cZ cD cI) U)) (fun _ _ _ _ => False) (rd_X (fun E => E = ISE)) 3 18 (fun _ => False) := by
  refine vx_ofW (cc := cX0_out) (maxL := 3) (ret := some .int) (by decide) rfl ?_
  intro p e s m args below meth c s₁ B hml hno hv
  obtain ⟨rfl, hX, hP, hK⟩ := hv
  have hx := B.exec
  have hb := B.bytes
  have hr := B.returns
  have hts := atoms_spec (ws := wsX0_out) B.pre
  have hown : s.vm.findClass RX0 = some m.cls := findClass_of_methodNamed B.named
  have hlocks := B.notSynchronized
  have hl := lv_entry ([.ref h0, .int (nI g), .int (nI w)]) (n := 3) (Nat.le_of_ble_eq_true rfl)
  rw [lg_entry_eq]
  generalize (lg_sl ([.ref h0, .int (nI g), .int (nI w)]) ++ List.replicate (3 - (lg_sl ([.ref h0, .int (nI g), .int (nI w)])).length) Slot.unset).toArray = ls at hl ⊢
  have hl : lv_has ls 3 [(0, .ref h0), (1, .int (nI g)), (2, .int (nI w))] := hl
  refine lv_iload_n hx hb dX0_out_0 rfl (lv_at hl 1 rfl) ?_
  refine kx_callv (vx_runS (As := [.int (nI g)]) (rest := []) ⟨hx, hb, hml, hown, hts⟩ (c_X0_needGauge l hl0 (nI g) ) (va_cwS 1 hts gX0_out_X0_needGauge rfl rfl rfl (by decide +kernel) ⟨Nat.le_of_ble_eq_true rfl, Nat.le_of_ble_eq_true rfl⟩) ⟨fun a U g mk q => ⟨q.1, xOK_call q.2 g mk a⟩, fun U hU hW => ⟨rfl, xOK_at hX hU hW⟩⟩ rfl rfl hl.1 rfl (lv_room (Nat.le_of_ble_eq_true rfl)) dX0_out_1 ⟨Nat.le_of_ble_eq_true rfl, Nat.le_of_ble_eq_true rfl⟩) hno hlocks (fun E hE => (hE.2 ⟨g, by omega, rfl⟩).elim) (Nat.le_of_ble_eq_true rfl) (Nat.le_of_ble_eq_true rfl) (fun h_1 => ?_)
  refine lv_iload_n hx hb dX0_out_4 rfl (lv_at hl 2 rfl) ?_
  refine kx_callv (vx_runS (As := [.int (nI w)]) (rest := []) ⟨hx, hb, hml, hown, hts⟩ (c_X0_needWhat l hl0 (nI w) ) (va_cwS 1 hts gX0_out_X0_needWhat rfl rfl rfl (by decide +kernel) ⟨Nat.le_of_ble_eq_true rfl, Nat.le_of_ble_eq_true rfl⟩) ⟨fun a U g mk q => ⟨q.1, xOK_call q.2 g mk a⟩, fun U hU hW => ⟨rfl, xOK_at hX hU hW⟩⟩ rfl rfl hl.1 rfl (lv_room (Nat.le_of_ble_eq_true rfl)) dX0_out_5 ⟨Nat.le_of_ble_eq_true rfl, Nat.le_of_ble_eq_true rfl⟩) hno hlocks (fun E hE => (hE.2 ⟨w, by omega, rfl⟩).elim) (Nat.le_of_ble_eq_true rfl) (Nat.le_of_ble_eq_true rfl) (fun h_2 => ?_)
  refine lv_aload_n hx hb dX0_out_8 rfl (lv_at hl 0 rfl) ?_
  refine lv_iload_n hx hb dX0_out_9 rfl (lv_at hl 1 rfl) ?_
  refine lv_iload_n hx hb dX0_out_10 rfl (lv_at hl 2 rfl) ?_
  refine rd_calli (va_runS (As := [.int (nI g), .int (nI w)]) (rest := [.ref h0]) ⟨hx, hb, hml, hown, hts⟩ (c_X0_stripOf l g w ) (va_cwS 2 hts gX0_out_X0_stripOf rfl rfl rfl (by decide +kernel) ⟨Nat.le_of_ble_eq_true rfl, Nat.le_of_ble_eq_true rfl⟩) ⟨fun a U g mk q => q, fun U hU hW => ⟨rfl, trivial⟩⟩ rfl rfl hl.1 rfl (lv_room (Nat.le_of_ble_eq_true rfl)) dX0_out_11 ⟨Nat.le_of_ble_eq_true rfl, Nat.le_of_ble_eq_true rfl⟩) (fun r_3 hr_3 => ?_)
  subst hr_3
  exact kn_never (vx_runV (As := [.int (nI (g * 2 + w))]) (rest := []) ⟨hx, hb, hml, hown, hts⟩ (c_X0_appendOut_full l D h0 hn hd hq cZ cD cI nb v ln go mv hln hl0 (g * 2 + w) (by omega) hfull) (cwV 1 hts gX0_out_X0_appendOut rfl rfl rfl (by decide +kernel) ⟨Nat.le_of_ble_eq_true rfl, Nat.le_of_ble_eq_true rfl⟩) ⟨fun a U g mk q => ⟨q.1, xOK_call q.2.1 g mk a, q.2.2.1, va_K.moved (u := U) (U := U.calling g mk a) (Vm.Alike.refl U.vm) q.2.2.2⟩, va_recv hK hP (ci := 1) (q0 := 0) rfl rfl, fun U hU hW => ⟨rfl, xOK_at hX hU hW, by rw [hU]; exact hP, va_K.moved hW.alike hK⟩⟩ rfl rfl hl.1 rfl (lv_room (Nat.le_of_ble_eq_true rfl)) dX0_out_14 ⟨Nat.le_of_ble_eq_true rfl, Nat.le_of_ble_eq_true rfl⟩) hno hlocks (fun E hE => hE) (Nat.le_of_ble_eq_true rfl) (Nat.le_of_ble_eq_true rfl)
set_option maxHeartbeats 4000000 in
set_option maxRecDepth 100000 in
theorem c_X0_clear_x (l : Launch) (D : va_G) (h0 hn hd hq : Nat) (cZ cD cI : ClassId) (nb : Nat → Bool) (v : Nat → UInt64) (ln : Nat → Nat) (go : Bool) (mv : Int32) (hln : ∀ j, ln j ≤ 12) (hl0 : l.stackTraces = false) (sz : Nat) (g : Nat) (hg : g < 6) : vx_Met l yX0_clear wsX0_clear ({ frames := 7, cells := 1, slots := 6, locals := 102 }) (va_Pc [.ref h0, .int (nI g)] (fun U => xOK U ∧ U.heap.size = sz ∧ va_P D vwCl (WB h0 hn hd hq cZ cD cI nb v ln go mv) U.heap ∧ va_K D vwCl (TY cZ cD cI) U ∧ va_D (fun _ => True) (WB h0 hn hd hq cZ cD cI nb v ln go mv))) (wr_Qi (fun r => r = nI (ln (g * 2 + 0) + ln (g * 2 + 1))) (fun H => va_P D vwCl (WB h0 hn hd hq cZ cD cI nb v (up (up ln (g * 2 + 0) 0) (g * 2 + 1) 0) go mv) H) (va_A (WB h0 hn hd hq cZ cD cI nb v ln go mv) sz)) (rd_X (fun E => False)) 1 6 (va_A (WB h0 hn hd hq cZ cD cI nb v ln go mv) sz) := by
  refine vx_ofW (cc := cX0_clear) (maxL := 2) (ret := some .int) (by decide) rfl ?_
  intro p e s m args below meth c s₁ B hml hno hv
  obtain ⟨rfl, hX, hsz_, hP, hK, hD0⟩ := hv
  have hx := B.exec
  have hb := B.bytes
  have hr := B.returns
  have hts := atoms_spec (ws := wsX0_clear) B.pre
  have hown : s.vm.findClass RX0 = some m.cls := findClass_of_methodNamed B.named
  have hlocks := B.notSynchronized
  subst hsz_
  have hD := hD0.self (sz := s.heap.size)
  generalize hAe : va_A (WB h0 hn hd hq cZ cD cI nb v ln go mv) s.heap.size = A at hD ⊢
  have hA : ∀ q : Nat, s.heap.size ≤ q → A q := fun q h => by rw [← hAe]; exact Or.inr h
  have hS : va_S A s.heap s.heap [] := va_S.rf
  have hl := lv_entry ([.ref h0, .int (nI g)]) (n := 2) (Nat.le_of_ble_eq_true rfl)
  rw [lg_entry_eq]
  generalize (lg_sl ([.ref h0, .int (nI g)]) ++ List.replicate (2 - (lg_sl ([.ref h0, .int (nI g)])).length) Slot.unset).toArray = ls at hl ⊢
  have hl : lv_has ls 2 [(0, .ref h0), (1, .int (nI g))] := hl
  refine lv_iload_n hx hb dX0_clear_0 rfl (lv_at hl 1 rfl) ?_
  refine kx_callv (vx_runS (As := [.int (nI g)]) (rest := []) ⟨hx, hb, hml, hown, hts⟩ (c_X0_needGauge l hl0 (nI g) ) (va_cwS 1 hts gX0_clear_X0_needGauge rfl rfl rfl (by decide +kernel) ⟨Nat.le_of_ble_eq_true rfl, Nat.le_of_ble_eq_true rfl⟩) ⟨fun a U g mk q => ⟨q.1, xOK_call q.2 g mk a⟩, fun U hU hW => ⟨rfl, xOK_at hX hU hW⟩⟩ rfl rfl hl.1 rfl (lv_room (Nat.le_of_ble_eq_true rfl)) dX0_clear_1 ⟨Nat.le_of_ble_eq_true rfl, Nat.le_of_ble_eq_true rfl⟩) hno hlocks (fun E hE => (hE.2 ⟨g, by omega, rfl⟩).elim) (Nat.le_of_ble_eq_true rfl) (Nat.le_of_ble_eq_true rfl) (fun h_1 => ?_)
  refine lv_aload_n hx hb dX0_clear_4 rfl (lv_at hl 0 rfl) ?_
  refine lv_iload_n hx hb dX0_clear_5 rfl (lv_at hl 1 rfl) ?_
  refine lv_iconst (v := nI 0) hx hb dX0_clear_6 (by decide) ?_
  refine rd_calli (va_runS (As := [.int (nI g), .int (nI 0)]) (rest := [.ref h0]) ⟨hx, hb, hml, hown, hts⟩ (c_X0_stripOf l g 0 ) (va_cwS 2 hts gX0_clear_X0_stripOf rfl rfl rfl (by decide +kernel) ⟨Nat.le_of_ble_eq_true rfl, Nat.le_of_ble_eq_true rfl⟩) ⟨fun a U g mk q => q, fun U hU hW => ⟨rfl, trivial⟩⟩ rfl rfl hl.1 rfl (lv_room (Nat.le_of_ble_eq_true rfl)) dX0_clear_7 ⟨Nat.le_of_ble_eq_true rfl, Nat.le_of_ble_eq_true rfl⟩) (fun r_2 hr_2 => ?_)
  subst hr_2
  have hFc := va_free (wc := WB h0 hn hd hq cZ cD cI nb v ln go mv) hD hS hA [0, 1, 2, 3] rfl
  refine wr_calli (va_runV (As := [.int (nI (g * 2 + 0))]) (rest := []) ⟨hx, hb, hml, hown, hts⟩ (c_X0_emptyStrip l D h0 hn hd hq cZ cD cI nb v ln go mv hln s.heap.size (g * 2 + 0) (by omega)) (cwV 1 hts gX0_clear_X0_emptyStrip rfl rfl rfl (by decide +kernel) ⟨Nat.le_of_ble_eq_true rfl, Nat.le_of_ble_eq_true rfl⟩) ⟨fun a U g mk q => ⟨q.1, q.2.1, q.2.2.1, va_K.moved (u := U) (U := U.calling g mk a) (Vm.Alike.refl U.vm) q.2.2.2.1, q.2.2.2.2⟩, va_recv hK hP (ci := 1) (q0 := 0) rfl rfl, fun U hU hW => ⟨rfl, by rw [hU], by rw [hU]; exact hP, va_K.moved hW.alike hK, hD.weaken (fun _ _ _ _ => trivial)⟩⟩ rfl rfl hl.1 rfl (lv_room (Nat.le_of_ble_eq_true rfl)) dX0_clear_10 ⟨Nat.le_of_ble_eq_true rfl, Nat.le_of_ble_eq_true rfl⟩) hS hFc (fun r_3 H locs hr_3 hP _ _ hS => ?_)
  subst hr_3
  have hln_4 : ∀ j, (up ln (g * 2 + 0) 0) j ≤ 12 := up_le hln (by omega)
  have hD : va_D A (WB h0 hn hd hq cZ cD cI nb v (up ln (g * 2 + 0) 0) go mv) := va_D_same (ws := WB h0 hn hd hq cZ cD cI nb v ln go mv) rfl hD
  have hP : va_P D vwCl (WB h0 hn hd hq cZ cD cI nb v (up ln (g * 2 + 0) 0) go mv) H := hP
  refine lv_aload_n hx hb dX0_clear_13 rfl (lv_at hl 0 rfl) ?_
  refine lv_iload_n hx hb dX0_clear_14 rfl (lv_at hl 1 rfl) ?_
  refine lv_iconst (v := nI 1) hx hb dX0_clear_15 (by decide) ?_
  refine rd_calli (va_runS (As := [.int (nI g), .int (nI 1)]) (rest := [.ref h0, .int (nI (ln (g * 2 + 0)))]) ⟨hx, hb, hml, hown, hts⟩ (c_X0_stripOf l g 1 ) (va_cwS 2 hts gX0_clear_X0_stripOf rfl rfl rfl (by decide +kernel) ⟨Nat.le_of_ble_eq_true rfl, Nat.le_of_ble_eq_true rfl⟩) ⟨fun a U g mk q => q, fun U hU hW => ⟨rfl, trivial⟩⟩ rfl rfl hl.1 rfl (lv_room (Nat.le_of_ble_eq_true rfl)) dX0_clear_16 ⟨Nat.le_of_ble_eq_true rfl, Nat.le_of_ble_eq_true rfl⟩) (fun r_5 hr_5 => ?_)
  subst hr_5
  have hFc := va_free (wc := WB h0 hn hd hq cZ cD cI nb v (up ln (g * 2 + 0) 0) go mv) hD hS hA [0, 1, 2, 3] rfl
  refine wr_calli (va_runV (As := [.int (nI (g * 2 + 1))]) (rest := [.int (nI (ln (g * 2 + 0)))]) ⟨hx, hb, hml, hown, hts⟩ (c_X0_emptyStrip l D h0 hn hd hq cZ cD cI nb v (up ln (g * 2 + 0) 0) go mv hln_4 H.size (g * 2 + 1) (by omega)) (cwV 1 hts gX0_clear_X0_emptyStrip rfl rfl rfl (by decide +kernel) ⟨Nat.le_of_ble_eq_true rfl, Nat.le_of_ble_eq_true rfl⟩) ⟨fun a U g mk q => ⟨q.1, q.2.1, q.2.2.1, va_K.moved (u := U) (U := U.calling g mk a) (Vm.Alike.refl U.vm) q.2.2.2.1, q.2.2.2.2⟩, va_recv hK hP (ci := 1) (q0 := 0) rfl rfl, fun U hU hW => ⟨rfl, by rw [hU], by rw [hU]; exact hP, va_K.moved hW.alike hK, hD.weaken (fun _ _ _ _ => trivial)⟩⟩ rfl rfl hl.1 rfl (lv_room (Nat.le_of_ble_eq_true rfl)) dX0_clear_19 ⟨Nat.le_of_ble_eq_true rfl, Nat.le_of_ble_eq_true rfl⟩) hS hFc (fun r_6 H locs hr_6 hP _ _ hS => ?_)
  subst hr_6
  have hln_7 : ∀ j, (up (up ln (g * 2 + 0) 0) (g * 2 + 1) 0) j ≤ 12 := up_le hln_4 (by omega)
  have hD : va_D A (WB h0 hn hd hq cZ cD cI nb v (up (up ln (g * 2 + 0) 0) (g * 2 + 1) 0) go mv) := va_D_same (ws := WB h0 hn hd hq cZ cD cI nb v (up ln (g * 2 + 0) 0) go mv) rfl hD
  have hP : va_P D vwCl (WB h0 hn hd hq cZ cD cI nb v (up (up ln (g * 2 + 0) 0) (g * 2 + 1) 0) go mv) H := hP
  refine kn_iadd hx hb dX0_clear_22 ?_
  refine vx_ret ?_
  refine W.widen (k := 1) (n := 6) (Nat.le_of_ble_eq_true rfl) (Nat.le_of_ble_eq_true rfl) ?_
  exact W.iret (v := nI ((ln (g * 2 + 0)) + ((up ln (g * 2 + 0) 0) (g * 2 + 1)))) hx hb hr (fun t9 ht9 hW9 => ⟨⟨_, rfl, congrArg nI (by rw [up_n _ _ (by omega)]), by rw [ht9]; exact hP⟩, hS.F ht9⟩) hS.2.2 dX0_clear_23
theorem c_X0_clear (l : Launch) (D : va_G) (h0 hn hd hq : Nat) (cZ cD cI : ClassId) (nb : Nat → Bool) (v : Nat → UInt64) (ln : Nat → Nat) (go : Bool) (mv : Int32) (hln : ∀ j, ln j ≤ 12) (hl0 : l.stackTraces = false) (sz : Nat) (g : Nat) (hg : g < 6) : Met l yX0_clear wsX0_clear ({ frames := 7, cells := 1, slots := 6, locals := 102 }) (va_Pc [.ref h0, .int (nI g)] (fun U => xOK U ∧ U.heap.size = sz ∧ va_P D vwCl (WB h0 hn hd hq cZ cD cI nb v ln go mv) U.heap ∧ va_K D vwCl (TY cZ cD cI) U ∧ va_D (fun _ => True) (WB h0 hn hd hq cZ cD cI nb v ln go mv))) (wr_Qi (fun r => r = nI (ln (g * 2 + 0) + ln (g * 2 + 1))) (fun H => va_P D vwCl (WB h0 hn hd hq cZ cD cI nb v (up (up ln (g * 2 + 0) 0) (g * 2 + 1) 0) go mv) H) (va_A (WB h0 hn hd hq cZ cD cI nb v ln go mv) sz)) 1 6 (va_A (WB h0 hn hd hq cZ cD cI nb v ln go mv) sz) := met_of_ok (c_X0_clear_x l D h0 hn hd hq cZ cD cI nb v ln go mv hln hl0 sz g hg)
set_option maxHeartbeats 4000000 in
set_option maxRecDepth 100000 in
theorem c_X0_mark_x (l : Launch) (D : va_G) (h0 hn hd hq : Nat) (cZ cD cI : ClassId) (nb : Nat → Bool) (v : Nat → UInt64) (ln : Nat → Nat) (go : Bool) (mv : Int32) (hln : ∀ j, ln j ≤ 12) (hl0 : l.stackTraces = false) (sz : Nat) (g : Nat) (k : Nat) (x : UInt64) (hg : g < 6) (hk : k < 2) (hlv : lvl x = true) : vx_Met l yX0_mark wsX0_mark ({ frames := 7, cells := 2, slots := 12, locals := 103 }) (va_Pc [.ref h0, .int (nI g), .int (nI k), .double x] (fun U => xOK U ∧ U.heap.size = sz ∧ va_P D vwCl (WB h0 hn hd hq cZ cD cI nb v ln go mv) U.heap ∧ va_K D vwCl (TY cZ cD cI) U ∧ va_D (fun _ => True) (WB h0 hn hd hq cZ cD cI nb v ln go mv))) (wr_Qi (fun r => r = b2i (nb (144 + g * 3 + k))) (fun H => va_P D vwCl (WB h0 hn hd hq cZ cD cI (up nb (144 + g * 3 + k) true) (up v (144 + g * 3 + k) x) ln go mv) H) (va_A (WB h0 hn hd hq cZ cD cI nb v ln go mv) sz)) (rd_X (fun E => False)) 2 12 (va_A (WB h0 hn hd hq cZ cD cI nb v ln go mv) sz) := by
  refine vx_ofW (cc := cX0_mark) (maxL := 5) (ret := some .boolean) (by decide) rfl ?_
  intro p e s m args below meth c s₁ B hml hno hv
  obtain ⟨rfl, hX, hsz_, hP, hK, hD0⟩ := hv
  have hx := B.exec
  have hb := B.bytes
  have hr := B.returns
  have hts := atoms_spec (ws := wsX0_mark) B.pre
  have hown : s.vm.findClass RX0 = some m.cls := findClass_of_methodNamed B.named
  have hlocks := B.notSynchronized
  subst hsz_
  have hD := hD0.self (sz := s.heap.size)
  generalize hAe : va_A (WB h0 hn hd hq cZ cD cI nb v ln go mv) s.heap.size = A at hD ⊢
  have hA : ∀ q : Nat, s.heap.size ≤ q → A q := fun q h => by rw [← hAe]; exact Or.inr h
  have hS : va_S A s.heap s.heap [] := va_S.rf
  have hl := lv_entry ([.ref h0, .int (nI g), .int (nI k), .double x]) (n := 5) (Nat.le_of_ble_eq_true rfl)
  rw [lg_entry_eq]
  generalize (lg_sl ([.ref h0, .int (nI g), .int (nI k), .double x]) ++ List.replicate (5 - (lg_sl ([.ref h0, .int (nI g), .int (nI k), .double x])).length) Slot.unset).toArray = ls at hl ⊢
  have hl : lv_has ls 5 [(0, .ref h0), (1, .int (nI g)), (2, .int (nI k)), (3, .double x)] := hl
  refine lv_iload_n hx hb dX0_mark_0 rfl (lv_at hl 1 rfl) ?_
  refine kx_callv (vx_runS (As := [.int (nI g)]) (rest := []) ⟨hx, hb, hml, hown, hts⟩ (c_X0_needGauge l hl0 (nI g) ) (va_cwS 1 hts gX0_mark_X0_needGauge rfl rfl rfl (by decide +kernel) ⟨Nat.le_of_ble_eq_true rfl, Nat.le_of_ble_eq_true rfl⟩) ⟨fun a U g mk q => ⟨q.1, xOK_call q.2 g mk a⟩, fun U hU hW => ⟨rfl, xOK_at hX hU hW⟩⟩ rfl rfl hl.1 rfl (lv_room (Nat.le_of_ble_eq_true rfl)) dX0_mark_1 ⟨Nat.le_of_ble_eq_true rfl, Nat.le_of_ble_eq_true rfl⟩) hno hlocks (fun E hE => (hE.2 ⟨g, by omega, rfl⟩).elim) (Nat.le_of_ble_eq_true rfl) (Nat.le_of_ble_eq_true rfl) (fun h_1 => ?_)
  refine lv_iload_n hx hb dX0_mark_4 rfl (lv_at hl 2 rfl) ?_
  refine kn_eq (tgt := 23) hx hb (by omega) dX0_mark_5 (by decide) (fun c_3 => ?_) (fun c_3 => ?_)
  · refine lv_dload_n hx hb dX0_mark_23 rfl (lv_at hl 3 rfl) ?_
    refine kx_callv (vx_runS (As := [.double x]) (rest := []) ⟨hx, hb, hml, hown, hts⟩ (c_X0_needLevel l hl0 x ) (va_cwS 1 hts gX0_mark_X0_needLevel rfl rfl rfl (by decide +kernel) ⟨Nat.le_of_ble_eq_true rfl, Nat.le_of_ble_eq_true rfl⟩) ⟨fun a U g mk q => ⟨q.1, xOK_call q.2 g mk a⟩, fun U hU hW => ⟨rfl, xOK_at hX hU hW⟩⟩ rfl rfl hl.1 rfl (lv_room (Nat.le_of_ble_eq_true rfl)) dX0_mark_24 ⟨Nat.le_of_ble_eq_true rfl, Nat.le_of_ble_eq_true rfl⟩) hno hlocks (fun E hE => absurd (hlv.symm.trans hE.2) (by decide)) (Nat.le_of_ble_eq_true rfl) (Nat.le_of_ble_eq_true rfl) (fun h_4 => ?_)
    refine lv_aload_n hx hb dX0_mark_27 rfl (lv_at hl 0 rfl) ?_
    refine lv_iload_n hx hb dX0_mark_28 rfl (lv_at hl 1 rfl) ?_
    refine lv_iload_n hx hb dX0_mark_29 rfl (lv_at hl 2 rfl) ?_
    refine rd_calli (va_runS (As := [.int (nI g), .int (nI k)]) (rest := [.ref h0]) ⟨hx, hb, hml, hown, hts⟩ (c_X0_markPlace l g k ) (va_cwS 2 hts gX0_mark_X0_markPlace rfl rfl rfl (by decide +kernel) ⟨Nat.le_of_ble_eq_true rfl, Nat.le_of_ble_eq_true rfl⟩) ⟨fun a U g mk q => q, fun U hU hW => ⟨rfl, trivial⟩⟩ rfl rfl hl.1 rfl (lv_room (Nat.le_of_ble_eq_true rfl)) dX0_mark_30 ⟨Nat.le_of_ble_eq_true rfl, Nat.le_of_ble_eq_true rfl⟩) (fun r_5 hr_5 => ?_)
    subst hr_5
    refine lv_dload_n hx hb dX0_mark_33 rfl (lv_at hl 3 rfl) ?_
    have hFc := va_free (wc := WB h0 hn hd hq cZ cD cI nb v ln go mv) hD hS hA [0, 1, 2, 3] rfl
    refine wr_calli (va_runV (As := [.int (nI (144 + g * 3 + k)), .double x]) (rest := []) ⟨hx, hb, hml, hown, hts⟩ (c_X0_putNumber l D h0 hn hd hq cZ cD cI nb v ln go mv hln s.heap.size (144 + g * 3 + k) x (by omega)) (cwV 2 hts gX0_mark_X0_putNumber rfl rfl rfl (by decide +kernel) ⟨Nat.le_of_ble_eq_true rfl, Nat.le_of_ble_eq_true rfl⟩) ⟨fun a U g mk q => ⟨q.1, q.2.1, q.2.2.1, va_K.moved (u := U) (U := U.calling g mk a) (Vm.Alike.refl U.vm) q.2.2.2.1, q.2.2.2.2⟩, va_recv hK hP (ci := 1) (q0 := 0) rfl rfl, fun U hU hW => ⟨rfl, by rw [hU], by rw [hU]; exact hP, va_K.moved hW.alike hK, hD.weaken (fun _ _ _ _ => trivial)⟩⟩ rfl rfl hl.1 rfl (lv_room (Nat.le_of_ble_eq_true rfl)) dX0_mark_34 ⟨Nat.le_of_ble_eq_true rfl, Nat.le_of_ble_eq_true rfl⟩) hS hFc (fun r_6 H locs hr_6 hP _ _ hS => ?_)
    subst hr_6
    have hD : va_D A (WB h0 hn hd hq cZ cD cI (up nb (144 + g * 3 + k) true) (up v (144 + g * 3 + k) x) ln go mv) := va_D_same (ws := WB h0 hn hd hq cZ cD cI nb v ln go mv) rfl hD
    have hP : va_P D vwCl (WB h0 hn hd hq cZ cD cI (up nb (144 + g * 3 + k) true) (up v (144 + g * 3 + k) x) ln go mv) H := hP
    refine vx_ret ?_
    refine W.widen (k := 2) (n := 12) (Nat.le_of_ble_eq_true rfl) (Nat.le_of_ble_eq_true rfl) ?_
    exact W.zret (v := b2i (nb (144 + g * 3 + k))) hx hb hr (b2i_nar _) (fun t9 ht9 hW9 => ⟨⟨_, rfl, rfl, by rw [ht9]; exact hP⟩, hS.F ht9⟩) hS.2.2 dX0_mark_37
  · refine lv_iload_n hx hb dX0_mark_8 rfl (lv_at hl 2 rfl) ?_
    refine lv_iconst (v := nI 1) hx hb dX0_mark_9 (by decide) ?_
    refine kn_icmp_eq (tgt := 23) hx hb (by omega) (by decide) dX0_mark_10 (by decide) (fun c_x => ?_) (fun h => absurd (show k = 1 by omega) h)
    refine lv_dload_n hx hb dX0_mark_23 rfl (lv_at hl 3 rfl) ?_
    refine kx_callv (vx_runS (As := [.double x]) (rest := []) ⟨hx, hb, hml, hown, hts⟩ (c_X0_needLevel l hl0 x ) (va_cwS 1 hts gX0_mark_X0_needLevel rfl rfl rfl (by decide +kernel) ⟨Nat.le_of_ble_eq_true rfl, Nat.le_of_ble_eq_true rfl⟩) ⟨fun a U g mk q => ⟨q.1, xOK_call q.2 g mk a⟩, fun U hU hW => ⟨rfl, xOK_at hX hU hW⟩⟩ rfl rfl hl.1 rfl (lv_room (Nat.le_of_ble_eq_true rfl)) dX0_mark_24 ⟨Nat.le_of_ble_eq_true rfl, Nat.le_of_ble_eq_true rfl⟩) hno hlocks (fun E hE => absurd (hlv.symm.trans hE.2) (by decide)) (Nat.le_of_ble_eq_true rfl) (Nat.le_of_ble_eq_true rfl) (fun h_7 => ?_)
    refine lv_aload_n hx hb dX0_mark_27 rfl (lv_at hl 0 rfl) ?_
    refine lv_iload_n hx hb dX0_mark_28 rfl (lv_at hl 1 rfl) ?_
    refine lv_iload_n hx hb dX0_mark_29 rfl (lv_at hl 2 rfl) ?_
    refine rd_calli (va_runS (As := [.int (nI g), .int (nI k)]) (rest := [.ref h0]) ⟨hx, hb, hml, hown, hts⟩ (c_X0_markPlace l g k ) (va_cwS 2 hts gX0_mark_X0_markPlace rfl rfl rfl (by decide +kernel) ⟨Nat.le_of_ble_eq_true rfl, Nat.le_of_ble_eq_true rfl⟩) ⟨fun a U g mk q => q, fun U hU hW => ⟨rfl, trivial⟩⟩ rfl rfl hl.1 rfl (lv_room (Nat.le_of_ble_eq_true rfl)) dX0_mark_30 ⟨Nat.le_of_ble_eq_true rfl, Nat.le_of_ble_eq_true rfl⟩) (fun r_8 hr_8 => ?_)
    subst hr_8
    refine lv_dload_n hx hb dX0_mark_33 rfl (lv_at hl 3 rfl) ?_
    have hFc := va_free (wc := WB h0 hn hd hq cZ cD cI nb v ln go mv) hD hS hA [0, 1, 2, 3] rfl
    refine wr_calli (va_runV (As := [.int (nI (144 + g * 3 + k)), .double x]) (rest := []) ⟨hx, hb, hml, hown, hts⟩ (c_X0_putNumber l D h0 hn hd hq cZ cD cI nb v ln go mv hln s.heap.size (144 + g * 3 + k) x (by omega)) (cwV 2 hts gX0_mark_X0_putNumber rfl rfl rfl (by decide +kernel) ⟨Nat.le_of_ble_eq_true rfl, Nat.le_of_ble_eq_true rfl⟩) ⟨fun a U g mk q => ⟨q.1, q.2.1, q.2.2.1, va_K.moved (u := U) (U := U.calling g mk a) (Vm.Alike.refl U.vm) q.2.2.2.1, q.2.2.2.2⟩, va_recv hK hP (ci := 1) (q0 := 0) rfl rfl, fun U hU hW => ⟨rfl, by rw [hU], by rw [hU]; exact hP, va_K.moved hW.alike hK, hD.weaken (fun _ _ _ _ => trivial)⟩⟩ rfl rfl hl.1 rfl (lv_room (Nat.le_of_ble_eq_true rfl)) dX0_mark_34 ⟨Nat.le_of_ble_eq_true rfl, Nat.le_of_ble_eq_true rfl⟩) hS hFc (fun r_9 H locs hr_9 hP _ _ hS => ?_)
    subst hr_9
    have hD : va_D A (WB h0 hn hd hq cZ cD cI (up nb (144 + g * 3 + k) true) (up v (144 + g * 3 + k) x) ln go mv) := va_D_same (ws := WB h0 hn hd hq cZ cD cI nb v ln go mv) rfl hD
    have hP : va_P D vwCl (WB h0 hn hd hq cZ cD cI (up nb (144 + g * 3 + k) true) (up v (144 + g * 3 + k) x) ln go mv) H := hP
    refine vx_ret ?_
    refine W.widen (k := 2) (n := 12) (Nat.le_of_ble_eq_true rfl) (Nat.le_of_ble_eq_true rfl) ?_
    exact W.zret (v := b2i (nb (144 + g * 3 + k))) hx hb hr (b2i_nar _) (fun t9 ht9 hW9 => ⟨⟨_, rfl, rfl, by rw [ht9]; exact hP⟩, hS.F ht9⟩) hS.2.2 dX0_mark_37
theorem c_X0_mark (l : Launch) (D : va_G) (h0 hn hd hq : Nat) (cZ cD cI : ClassId) (nb : Nat → Bool) (v : Nat → UInt64) (ln : Nat → Nat) (go : Bool) (mv : Int32) (hln : ∀ j, ln j ≤ 12) (hl0 : l.stackTraces = false) (sz : Nat) (g : Nat) (k : Nat) (x : UInt64) (hg : g < 6) (hk : k < 2) (hlv : lvl x = true) : Met l yX0_mark wsX0_mark ({ frames := 7, cells := 2, slots := 12, locals := 103 }) (va_Pc [.ref h0, .int (nI g), .int (nI k), .double x] (fun U => xOK U ∧ U.heap.size = sz ∧ va_P D vwCl (WB h0 hn hd hq cZ cD cI nb v ln go mv) U.heap ∧ va_K D vwCl (TY cZ cD cI) U ∧ va_D (fun _ => True) (WB h0 hn hd hq cZ cD cI nb v ln go mv))) (wr_Qi (fun r => r = b2i (nb (144 + g * 3 + k))) (fun H => va_P D vwCl (WB h0 hn hd hq cZ cD cI (up nb (144 + g * 3 + k) true) (up v (144 + g * 3 + k) x) ln go mv) H) (va_A (WB h0 hn hd hq cZ cD cI nb v ln go mv) sz)) 2 12 (va_A (WB h0 hn hd hq cZ cD cI nb v ln go mv) sz) := met_of_ok (c_X0_mark_x l D h0 hn hd hq cZ cD cI nb v ln go mv hln hl0 sz g k x hg hk hlv)
set_option maxHeartbeats 4000000 in
set_option maxRecDepth 100000 in
theorem c_X0_gale_x (l : Launch) (D : va_G) (h0 hn hd hq : Nat) (cZ cD cI : ClassId) (nb : Nat → Bool) (v : Nat → UInt64) (ln : Nat → Nat) (go : Bool) (mv : Int32) (hln : ∀ j, ln j ≤ 12) (hl0 : l.stackTraces = false) (sz : Nat) (g : Nat) (x : UInt32) (hg : g < 6) (hlv : wnd x = true) : vx_Met l yX0_gale wsX0_gale ({ frames := 7, cells := 2, slots := 12, locals := 102 }) (va_Pc [.ref h0, .int (nI g), .float x] (fun U => xOK U ∧ U.heap.size = sz ∧ va_P D vwCl (WB h0 hn hd hq cZ cD cI nb v ln go mv) U.heap ∧ va_K D vwCl (TY cZ cD cI) U ∧ va_D (fun _ => True) (WB h0 hn hd hq cZ cD cI nb v ln go mv))) (wr_Qi (fun r => r = b2i (nb (144 + g * 3 + 2))) (fun H => va_P D vwCl (WB h0 hn hd hq cZ cD cI (up nb (144 + g * 3 + 2) true) (up v (144 + g * 3 + 2) (FP.f2d x)) ln go mv) H) (va_A (WB h0 hn hd hq cZ cD cI nb v ln go mv) sz)) (rd_X (fun E => False)) 2 12 (va_A (WB h0 hn hd hq cZ cD cI nb v ln go mv) sz) := by
  refine vx_ofW (cc := cX0_gale) (maxL := 3) (ret := some .boolean) (by decide) rfl ?_
  intro p e s m args below meth c s₁ B hml hno hv
  obtain ⟨rfl, hX, hsz_, hP, hK, hD0⟩ := hv
  have hx := B.exec
  have hb := B.bytes
  have hr := B.returns
  have hts := atoms_spec (ws := wsX0_gale) B.pre
  have hown : s.vm.findClass RX0 = some m.cls := findClass_of_methodNamed B.named
  have hlocks := B.notSynchronized
  subst hsz_
  have hD := hD0.self (sz := s.heap.size)
  generalize hAe : va_A (WB h0 hn hd hq cZ cD cI nb v ln go mv) s.heap.size = A at hD ⊢
  have hA : ∀ q : Nat, s.heap.size ≤ q → A q := fun q h => by rw [← hAe]; exact Or.inr h
  have hS : va_S A s.heap s.heap [] := va_S.rf
  have hl := lv_entry ([.ref h0, .int (nI g), .float x]) (n := 3) (Nat.le_of_ble_eq_true rfl)
  rw [lg_entry_eq]
  generalize (lg_sl ([.ref h0, .int (nI g), .float x]) ++ List.replicate (3 - (lg_sl ([.ref h0, .int (nI g), .float x])).length) Slot.unset).toArray = ls at hl ⊢
  have hl : lv_has ls 3 [(0, .ref h0), (1, .int (nI g)), (2, .float x)] := hl
  refine lv_iload_n hx hb dX0_gale_0 rfl (lv_at hl 1 rfl) ?_
  refine kx_callv (vx_runS (As := [.int (nI g)]) (rest := []) ⟨hx, hb, hml, hown, hts⟩ (c_X0_needGauge l hl0 (nI g) ) (va_cwS 1 hts gX0_gale_X0_needGauge rfl rfl rfl (by decide +kernel) ⟨Nat.le_of_ble_eq_true rfl, Nat.le_of_ble_eq_true rfl⟩) ⟨fun a U g mk q => ⟨q.1, xOK_call q.2 g mk a⟩, fun U hU hW => ⟨rfl, xOK_at hX hU hW⟩⟩ rfl rfl hl.1 rfl (lv_room (Nat.le_of_ble_eq_true rfl)) dX0_gale_1 ⟨Nat.le_of_ble_eq_true rfl, Nat.le_of_ble_eq_true rfl⟩) hno hlocks (fun E hE => (hE.2 ⟨g, by omega, rfl⟩).elim) (Nat.le_of_ble_eq_true rfl) (Nat.le_of_ble_eq_true rfl) (fun h_1 => ?_)
  refine lv_fload_n hx hb dX0_gale_4 rfl (lv_at hl 2 rfl) ?_
  refine kx_callv (vx_runS (As := [.float x]) (rest := []) ⟨hx, hb, hml, hown, hts⟩ (c_X0_needWind l hl0 x ) (va_cwS 1 hts gX0_gale_X0_needWind rfl rfl rfl (by decide +kernel) ⟨Nat.le_of_ble_eq_true rfl, Nat.le_of_ble_eq_true rfl⟩) ⟨fun a U g mk q => ⟨q.1, xOK_call q.2 g mk a⟩, fun U hU hW => ⟨rfl, xOK_at hX hU hW⟩⟩ rfl rfl hl.1 rfl (lv_room (Nat.le_of_ble_eq_true rfl)) dX0_gale_5 ⟨Nat.le_of_ble_eq_true rfl, Nat.le_of_ble_eq_true rfl⟩) hno hlocks (fun E hE => absurd (hlv.symm.trans hE.2) (by decide)) (Nat.le_of_ble_eq_true rfl) (Nat.le_of_ble_eq_true rfl) (fun h_2 => ?_)
  refine lv_aload_n hx hb dX0_gale_8 rfl (lv_at hl 0 rfl) ?_
  refine lv_iload_n hx hb dX0_gale_9 rfl (lv_at hl 1 rfl) ?_
  refine lv_iconst (v := nI 2) hx hb dX0_gale_10 (by decide) ?_
  refine rd_calli (va_runS (As := [.int (nI g), .int (nI 2)]) (rest := [.ref h0]) ⟨hx, hb, hml, hown, hts⟩ (c_X0_markPlace l g 2 ) (va_cwS 2 hts gX0_gale_X0_markPlace rfl rfl rfl (by decide +kernel) ⟨Nat.le_of_ble_eq_true rfl, Nat.le_of_ble_eq_true rfl⟩) ⟨fun a U g mk q => q, fun U hU hW => ⟨rfl, trivial⟩⟩ rfl rfl hl.1 rfl (lv_room (Nat.le_of_ble_eq_true rfl)) dX0_gale_11 ⟨Nat.le_of_ble_eq_true rfl, Nat.le_of_ble_eq_true rfl⟩) (fun r_3 hr_3 => ?_)
  subst hr_3
  refine lv_fload_n hx hb dX0_gale_14 rfl (lv_at hl 2 rfl) ?_
  refine lv_f2d hx hb dX0_gale_15 (f2d_n hlv) ?_
  have hFc := va_free (wc := WB h0 hn hd hq cZ cD cI nb v ln go mv) hD hS hA [0, 1, 2, 3] rfl
  refine wr_calli (va_runV (As := [.int (nI (144 + g * 3 + 2)), .double (FP.f2d x)]) (rest := []) ⟨hx, hb, hml, hown, hts⟩ (c_X0_putNumber l D h0 hn hd hq cZ cD cI nb v ln go mv hln s.heap.size (144 + g * 3 + 2) (FP.f2d x) (by omega)) (cwV 2 hts gX0_gale_X0_putNumber rfl rfl rfl (by decide +kernel) ⟨Nat.le_of_ble_eq_true rfl, Nat.le_of_ble_eq_true rfl⟩) ⟨fun a U g mk q => ⟨q.1, q.2.1, q.2.2.1, va_K.moved (u := U) (U := U.calling g mk a) (Vm.Alike.refl U.vm) q.2.2.2.1, q.2.2.2.2⟩, va_recv hK hP (ci := 1) (q0 := 0) rfl rfl, fun U hU hW => ⟨rfl, by rw [hU], by rw [hU]; exact hP, va_K.moved hW.alike hK, hD.weaken (fun _ _ _ _ => trivial)⟩⟩ rfl rfl hl.1 rfl (lv_room (Nat.le_of_ble_eq_true rfl)) dX0_gale_16 ⟨Nat.le_of_ble_eq_true rfl, Nat.le_of_ble_eq_true rfl⟩) hS hFc (fun r_4 H locs hr_4 hP _ _ hS => ?_)
  subst hr_4
  have hD : va_D A (WB h0 hn hd hq cZ cD cI (up nb (144 + g * 3 + 2) true) (up v (144 + g * 3 + 2) (FP.f2d x)) ln go mv) := va_D_same (ws := WB h0 hn hd hq cZ cD cI nb v ln go mv) rfl hD
  have hP : va_P D vwCl (WB h0 hn hd hq cZ cD cI (up nb (144 + g * 3 + 2) true) (up v (144 + g * 3 + 2) (FP.f2d x)) ln go mv) H := hP
  refine vx_ret ?_
  refine W.widen (k := 2) (n := 12) (Nat.le_of_ble_eq_true rfl) (Nat.le_of_ble_eq_true rfl) ?_
  exact W.zret (v := b2i (nb (144 + g * 3 + 2))) hx hb hr (b2i_nar _) (fun t9 ht9 hW9 => ⟨⟨_, rfl, rfl, by rw [ht9]; exact hP⟩, hS.F ht9⟩) hS.2.2 dX0_gale_19
theorem c_X0_gale (l : Launch) (D : va_G) (h0 hn hd hq : Nat) (cZ cD cI : ClassId) (nb : Nat → Bool) (v : Nat → UInt64) (ln : Nat → Nat) (go : Bool) (mv : Int32) (hln : ∀ j, ln j ≤ 12) (hl0 : l.stackTraces = false) (sz : Nat) (g : Nat) (x : UInt32) (hg : g < 6) (hlv : wnd x = true) : Met l yX0_gale wsX0_gale ({ frames := 7, cells := 2, slots := 12, locals := 102 }) (va_Pc [.ref h0, .int (nI g), .float x] (fun U => xOK U ∧ U.heap.size = sz ∧ va_P D vwCl (WB h0 hn hd hq cZ cD cI nb v ln go mv) U.heap ∧ va_K D vwCl (TY cZ cD cI) U ∧ va_D (fun _ => True) (WB h0 hn hd hq cZ cD cI nb v ln go mv))) (wr_Qi (fun r => r = b2i (nb (144 + g * 3 + 2))) (fun H => va_P D vwCl (WB h0 hn hd hq cZ cD cI (up nb (144 + g * 3 + 2) true) (up v (144 + g * 3 + 2) (FP.f2d x)) ln go mv) H) (va_A (WB h0 hn hd hq cZ cD cI nb v ln go mv) sz)) 2 12 (va_A (WB h0 hn hd hq cZ cD cI nb v ln go mv) sz) := met_of_ok (c_X0_gale_x l D h0 hn hd hq cZ cD cI nb v ln go mv hln hl0 sz g x hg hlv)
set_option maxHeartbeats 4000000 in
set_option maxRecDepth 100000 in
theorem c_X0_lift_x (l : Launch) (D : va_G) (h0 hn hd hq : Nat) (cZ cD cI : ClassId) (nb : Nat → Bool) (v : Nat → UInt64) (ln : Nat → Nat) (go : Bool) (mv : Int32) (hln : ∀ j, ln j ≤ 12) (hl0 : l.stackTraces = false) (sz : Nat) (g : Nat) (k : Nat) (hg : g < 6) (hk : k < 3) : vx_Met l yX0_lift wsX0_lift ({ frames := 7, cells := 1, slots := 6, locals := 102 }) (va_Pc [.ref h0, .int (nI g), .int (nI k)] (fun U => xOK U ∧ U.heap.size = sz ∧ va_P D vwCl (WB h0 hn hd hq cZ cD cI nb v ln go mv) U.heap ∧ va_K D vwCl (TY cZ cD cI) U ∧ va_D (fun _ => True) (WB h0 hn hd hq cZ cD cI nb v ln go mv))) (wr_Qi (fun r => r = b2i (nb (144 + g * 3 + k))) (fun H => va_P D vwCl (WB h0 hn hd hq cZ cD cI (up nb (144 + g * 3 + k) false) v ln go mv) H) (va_A (WB h0 hn hd hq cZ cD cI nb v ln go mv) sz)) (rd_X (fun E => False)) 1 6 (va_A (WB h0 hn hd hq cZ cD cI nb v ln go mv) sz) := by
  refine vx_ofW (cc := cX0_lift) (maxL := 3) (ret := some .boolean) (by decide) rfl ?_
  intro p e s m args below meth c s₁ B hml hno hv
  obtain ⟨rfl, hX, hsz_, hP, hK, hD0⟩ := hv
  have hx := B.exec
  have hb := B.bytes
  have hr := B.returns
  have hts := atoms_spec (ws := wsX0_lift) B.pre
  have hown : s.vm.findClass RX0 = some m.cls := findClass_of_methodNamed B.named
  have hlocks := B.notSynchronized
  subst hsz_
  have hD := hD0.self (sz := s.heap.size)
  generalize hAe : va_A (WB h0 hn hd hq cZ cD cI nb v ln go mv) s.heap.size = A at hD ⊢
  have hA : ∀ q : Nat, s.heap.size ≤ q → A q := fun q h => by rw [← hAe]; exact Or.inr h
  have hS : va_S A s.heap s.heap [] := va_S.rf
  have hl := lv_entry ([.ref h0, .int (nI g), .int (nI k)]) (n := 3) (Nat.le_of_ble_eq_true rfl)
  rw [lg_entry_eq]
  generalize (lg_sl ([.ref h0, .int (nI g), .int (nI k)]) ++ List.replicate (3 - (lg_sl ([.ref h0, .int (nI g), .int (nI k)])).length) Slot.unset).toArray = ls at hl ⊢
  have hl : lv_has ls 3 [(0, .ref h0), (1, .int (nI g)), (2, .int (nI k))] := hl
  refine lv_iload_n hx hb dX0_lift_0 rfl (lv_at hl 1 rfl) ?_
  refine kx_callv (vx_runS (As := [.int (nI g)]) (rest := []) ⟨hx, hb, hml, hown, hts⟩ (c_X0_needGauge l hl0 (nI g) ) (va_cwS 1 hts gX0_lift_X0_needGauge rfl rfl rfl (by decide +kernel) ⟨Nat.le_of_ble_eq_true rfl, Nat.le_of_ble_eq_true rfl⟩) ⟨fun a U g mk q => ⟨q.1, xOK_call q.2 g mk a⟩, fun U hU hW => ⟨rfl, xOK_at hX hU hW⟩⟩ rfl rfl hl.1 rfl (lv_room (Nat.le_of_ble_eq_true rfl)) dX0_lift_1 ⟨Nat.le_of_ble_eq_true rfl, Nat.le_of_ble_eq_true rfl⟩) hno hlocks (fun E hE => (hE.2 ⟨g, by omega, rfl⟩).elim) (Nat.le_of_ble_eq_true rfl) (Nat.le_of_ble_eq_true rfl) (fun h_1 => ?_)
  refine lv_iload_n hx hb dX0_lift_4 rfl (lv_at hl 2 rfl) ?_
  refine kn_iflt (tgt := 13) hx hb (by omega) dX0_lift_5 (by decide) ?_
  refine lv_iload_n hx hb dX0_lift_8 rfl (lv_at hl 2 rfl) ?_
  refine lv_iconst (v := nI 3) hx hb dX0_lift_9 (by decide) ?_
  refine kn_icmp_lt (tgt := 23) hx hb (by omega) (by decide) dX0_lift_10 (by decide) (fun c_x => ?_) (fun h => absurd h (by omega))
  refine lv_aload_n hx hb dX0_lift_23 rfl (lv_at hl 0 rfl) ?_
  refine lv_iload_n hx hb dX0_lift_24 rfl (lv_at hl 1 rfl) ?_
  refine lv_iload_n hx hb dX0_lift_25 rfl (lv_at hl 2 rfl) ?_
  refine rd_calli (va_runS (As := [.int (nI g), .int (nI k)]) (rest := [.ref h0]) ⟨hx, hb, hml, hown, hts⟩ (c_X0_markPlace l g k ) (va_cwS 2 hts gX0_lift_X0_markPlace rfl rfl rfl (by decide +kernel) ⟨Nat.le_of_ble_eq_true rfl, Nat.le_of_ble_eq_true rfl⟩) ⟨fun a U g mk q => q, fun U hU hW => ⟨rfl, trivial⟩⟩ rfl rfl hl.1 rfl (lv_room (Nat.le_of_ble_eq_true rfl)) dX0_lift_26 ⟨Nat.le_of_ble_eq_true rfl, Nat.le_of_ble_eq_true rfl⟩) (fun r_2 hr_2 => ?_)
  subst hr_2
  have hFc := va_free (wc := WB h0 hn hd hq cZ cD cI nb v ln go mv) hD hS hA [0, 1, 2, 3] rfl
  refine wr_calli (va_runV (As := [.int (nI (144 + g * 3 + k))]) (rest := []) ⟨hx, hb, hml, hown, hts⟩ (c_X0_putOut l D h0 hn hd hq cZ cD cI nb v ln go mv hln s.heap.size (144 + g * 3 + k) (by omega)) (cwV 1 hts gX0_lift_X0_putOut rfl rfl rfl (by decide +kernel) ⟨Nat.le_of_ble_eq_true rfl, Nat.le_of_ble_eq_true rfl⟩) ⟨fun a U g mk q => ⟨q.1, q.2.1, q.2.2.1, va_K.moved (u := U) (U := U.calling g mk a) (Vm.Alike.refl U.vm) q.2.2.2.1, q.2.2.2.2⟩, va_recv hK hP (ci := 1) (q0 := 0) rfl rfl, fun U hU hW => ⟨rfl, by rw [hU], by rw [hU]; exact hP, va_K.moved hW.alike hK, hD.weaken (fun _ _ _ _ => trivial)⟩⟩ rfl rfl hl.1 rfl (lv_room (Nat.le_of_ble_eq_true rfl)) dX0_lift_29 ⟨Nat.le_of_ble_eq_true rfl, Nat.le_of_ble_eq_true rfl⟩) hS hFc (fun r_3 H locs hr_3 hP _ _ hS => ?_)
  subst hr_3
  have hD : va_D A (WB h0 hn hd hq cZ cD cI (up nb (144 + g * 3 + k) false) v ln go mv) := va_D_same (ws := WB h0 hn hd hq cZ cD cI nb v ln go mv) rfl hD
  have hP : va_P D vwCl (WB h0 hn hd hq cZ cD cI (up nb (144 + g * 3 + k) false) v ln go mv) H := hP
  refine vx_ret ?_
  refine W.widen (k := 1) (n := 6) (Nat.le_of_ble_eq_true rfl) (Nat.le_of_ble_eq_true rfl) ?_
  exact W.zret (v := b2i (nb (144 + g * 3 + k))) hx hb hr (b2i_nar _) (fun t9 ht9 hW9 => ⟨⟨_, rfl, rfl, by rw [ht9]; exact hP⟩, hS.F ht9⟩) hS.2.2 dX0_lift_32
theorem c_X0_lift (l : Launch) (D : va_G) (h0 hn hd hq : Nat) (cZ cD cI : ClassId) (nb : Nat → Bool) (v : Nat → UInt64) (ln : Nat → Nat) (go : Bool) (mv : Int32) (hln : ∀ j, ln j ≤ 12) (hl0 : l.stackTraces = false) (sz : Nat) (g : Nat) (k : Nat) (hg : g < 6) (hk : k < 3) : Met l yX0_lift wsX0_lift ({ frames := 7, cells := 1, slots := 6, locals := 102 }) (va_Pc [.ref h0, .int (nI g), .int (nI k)] (fun U => xOK U ∧ U.heap.size = sz ∧ va_P D vwCl (WB h0 hn hd hq cZ cD cI nb v ln go mv) U.heap ∧ va_K D vwCl (TY cZ cD cI) U ∧ va_D (fun _ => True) (WB h0 hn hd hq cZ cD cI nb v ln go mv))) (wr_Qi (fun r => r = b2i (nb (144 + g * 3 + k))) (fun H => va_P D vwCl (WB h0 hn hd hq cZ cD cI (up nb (144 + g * 3 + k) false) v ln go mv) H) (va_A (WB h0 hn hd hq cZ cD cI nb v ln go mv) sz)) 1 6 (va_A (WB h0 hn hd hq cZ cD cI nb v ln go mv) sz) := met_of_ok (c_X0_lift_x l D h0 hn hd hq cZ cD cI nb v ln go mv hln hl0 sz g k hg hk)
set_option maxHeartbeats 4000000 in
set_option maxRecDepth 100000 in
theorem c_X0_probe_x (l : Launch) (D : va_G) (h0 hn hd hq : Nat) (cZ cD cI : ClassId) (nb : Nat → Bool) (v : Nat → UInt64) (ln : Nat → Nat) (go : Bool) (mv : Int32) (hln : ∀ j, ln j ≤ 12) (hl0 : l.stackTraces = false) (sz : Nat) (x : UInt64) (hlv : lvl x = true) : vx_Met l yX0_probe wsX0_probe ({ frames := 7, cells := 1, slots := 6, locals := 103 }) (va_Pc [.ref h0, .double x] (fun U => xOK U ∧ U.heap.size = sz ∧ va_P D vwCl (WB h0 hn hd hq cZ cD cI nb v ln go mv) U.heap ∧ va_K D vwCl (TY cZ cD cI) U ∧ va_D (fun _ => True) (WB h0 hn hd hq cZ cD cI nb v ln go mv))) (wr_Qi (fun r => r = nI (gr (up nb (162 + 0) true) (up v (162 + 0) x) ln 0 4)) (fun H => va_P D vwCl (WB h0 hn hd hq cZ cD cI (up nb (162 + 0) true) (up v (162 + 0) x) ln go mv) H) (va_A (WB h0 hn hd hq cZ cD cI nb v ln go mv) sz)) (rd_X (fun E => False)) 1 6 (va_A (WB h0 hn hd hq cZ cD cI nb v ln go mv) sz) := by
  refine vx_ofW (cc := cX0_probe) (maxL := 3) (ret := some .int) (by decide) rfl ?_
  intro p e s m args below meth c s₁ B hml hno hv
  obtain ⟨rfl, hX, hsz_, hP, hK, hD0⟩ := hv
  have hx := B.exec
  have hb := B.bytes
  have hr := B.returns
  have hts := atoms_spec (ws := wsX0_probe) B.pre
  have hown : s.vm.findClass RX0 = some m.cls := findClass_of_methodNamed B.named
  have hlocks := B.notSynchronized
  subst hsz_
  have hD := hD0.self (sz := s.heap.size)
  generalize hAe : va_A (WB h0 hn hd hq cZ cD cI nb v ln go mv) s.heap.size = A at hD ⊢
  have hA : ∀ q : Nat, s.heap.size ≤ q → A q := fun q h => by rw [← hAe]; exact Or.inr h
  have hS : va_S A s.heap s.heap [] := va_S.rf
  have hl := lv_entry ([.ref h0, .double x]) (n := 3) (Nat.le_of_ble_eq_true rfl)
  rw [lg_entry_eq]
  generalize (lg_sl ([.ref h0, .double x]) ++ List.replicate (3 - (lg_sl ([.ref h0, .double x])).length) Slot.unset).toArray = ls at hl ⊢
  have hl : lv_has ls 3 [(0, .ref h0), (1, .double x)] := hl
  refine lv_dload_n hx hb dX0_probe_0 rfl (lv_at hl 1 rfl) ?_
  refine kx_callv (vx_runS (As := [.double x]) (rest := []) ⟨hx, hb, hml, hown, hts⟩ (c_X0_needLevel l hl0 x ) (va_cwS 1 hts gX0_probe_X0_needLevel rfl rfl rfl (by decide +kernel) ⟨Nat.le_of_ble_eq_true rfl, Nat.le_of_ble_eq_true rfl⟩) ⟨fun a U g mk q => ⟨q.1, xOK_call q.2 g mk a⟩, fun U hU hW => ⟨rfl, xOK_at hX hU hW⟩⟩ rfl rfl hl.1 rfl (lv_room (Nat.le_of_ble_eq_true rfl)) dX0_probe_1 ⟨Nat.le_of_ble_eq_true rfl, Nat.le_of_ble_eq_true rfl⟩) hno hlocks (fun E hE => absurd (hlv.symm.trans hE.2) (by decide)) (Nat.le_of_ble_eq_true rfl) (Nat.le_of_ble_eq_true rfl) (fun h_1 => ?_)
  refine lv_aload_n hx hb dX0_probe_4 rfl (lv_at hl 0 rfl) ?_
  refine lv_iconst (v := nI 0) hx hb dX0_probe_5 (by decide) ?_
  refine rd_calli (va_runS (As := [.int (nI 0)]) (rest := [.ref h0]) ⟨hx, hb, hml, hown, hts⟩ (c_X0_probePlace l 0 ) (va_cwS 1 hts gX0_probe_X0_probePlace rfl rfl rfl (by decide +kernel) ⟨Nat.le_of_ble_eq_true rfl, Nat.le_of_ble_eq_true rfl⟩) ⟨fun a U g mk q => q, fun U hU hW => ⟨rfl, trivial⟩⟩ rfl rfl hl.1 rfl (lv_room (Nat.le_of_ble_eq_true rfl)) dX0_probe_6 ⟨Nat.le_of_ble_eq_true rfl, Nat.le_of_ble_eq_true rfl⟩) (fun r_2 hr_2 => ?_)
  subst hr_2
  refine lv_dload_n hx hb dX0_probe_9 rfl (lv_at hl 1 rfl) ?_
  have hFc := va_free (wc := WB h0 hn hd hq cZ cD cI nb v ln go mv) hD hS hA [0, 1, 2, 3] rfl
  refine wr_calli (va_runV (As := [.int (nI (162 + 0)), .double x]) (rest := []) ⟨hx, hb, hml, hown, hts⟩ (c_X0_putNumber l D h0 hn hd hq cZ cD cI nb v ln go mv hln s.heap.size (162 + 0) x (by omega)) (cwV 2 hts gX0_probe_X0_putNumber rfl rfl rfl (by decide +kernel) ⟨Nat.le_of_ble_eq_true rfl, Nat.le_of_ble_eq_true rfl⟩) ⟨fun a U g mk q => ⟨q.1, q.2.1, q.2.2.1, va_K.moved (u := U) (U := U.calling g mk a) (Vm.Alike.refl U.vm) q.2.2.2.1, q.2.2.2.2⟩, va_recv hK hP (ci := 1) (q0 := 0) rfl rfl, fun U hU hW => ⟨rfl, by rw [hU], by rw [hU]; exact hP, va_K.moved hW.alike hK, hD.weaken (fun _ _ _ _ => trivial)⟩⟩ rfl rfl hl.1 rfl (lv_room (Nat.le_of_ble_eq_true rfl)) dX0_probe_10 ⟨Nat.le_of_ble_eq_true rfl, Nat.le_of_ble_eq_true rfl⟩) hS hFc (fun r_3 H locs hr_3 hP _ _ hS => ?_)
  subst hr_3
  have hD : va_D A (WB h0 hn hd hq cZ cD cI (up nb (162 + 0) true) (up v (162 + 0) x) ln go mv) := va_D_same (ws := WB h0 hn hd hq cZ cD cI nb v ln go mv) rfl hD
  have hP : va_P D vwCl (WB h0 hn hd hq cZ cD cI (up nb (162 + 0) true) (up v (162 + 0) x) ln go mv) H := hP
  refine lv_pop hx hb dX0_probe_13 rfl ?_
  refine lv_aload_n hx hb dX0_probe_14 rfl (lv_at hl 0 rfl) ?_
  refine lv_iconst (v := nI 0) hx hb dX0_probe_15 (by decide) ?_
  refine lv_iconst (v := nI 4) hx hb dX0_probe_16 (by decide) ?_
  refine rd_calli (va_runV (As := [.int (nI 0), .int (nI 4)]) (rest := []) ⟨hx, hb, hml, hown, hts⟩ (c_X0_gaugesRelatedToProbe l D h0 hn hd hq cZ cD cI (up nb (162 + 0) true) (up v (162 + 0) x) ln go mv hln 0 4 (by omega) (by decide)) (cwV 2 hts gX0_probe_X0_gaugesRelatedToProbe rfl rfl rfl (by decide +kernel) ⟨Nat.le_of_ble_eq_true rfl, Nat.le_of_ble_eq_true rfl⟩) ⟨fun a U g mk q => ⟨q.1, q.2.1, va_K.moved (u := U) (U := U.calling g mk a) (Vm.Alike.refl U.vm) q.2.2⟩, va_recv hK hP (ci := 1) (q0 := 0) rfl rfl, fun U hU hW => ⟨rfl, by rw [hU]; exact hP, va_K.moved hW.alike hK⟩⟩ rfl rfl hl.1 rfl (lv_room (Nat.le_of_ble_eq_true rfl)) dX0_probe_17 ⟨Nat.le_of_ble_eq_true rfl, Nat.le_of_ble_eq_true rfl⟩) (fun r_4 hr_4 => ?_)
  subst hr_4
  refine vx_ret ?_
  refine W.widen (k := 1) (n := 6) (Nat.le_of_ble_eq_true rfl) (Nat.le_of_ble_eq_true rfl) ?_
  exact W.iret (v := nI (gr (up nb (162 + 0) true) (up v (162 + 0) x) ln 0 4)) hx hb hr (fun t9 ht9 hW9 => ⟨⟨_, rfl, rfl, by rw [ht9]; exact hP⟩, hS.F ht9⟩) hS.2.2 dX0_probe_20
theorem c_X0_probe (l : Launch) (D : va_G) (h0 hn hd hq : Nat) (cZ cD cI : ClassId) (nb : Nat → Bool) (v : Nat → UInt64) (ln : Nat → Nat) (go : Bool) (mv : Int32) (hln : ∀ j, ln j ≤ 12) (hl0 : l.stackTraces = false) (sz : Nat) (x : UInt64) (hlv : lvl x = true) : Met l yX0_probe wsX0_probe ({ frames := 7, cells := 1, slots := 6, locals := 103 }) (va_Pc [.ref h0, .double x] (fun U => xOK U ∧ U.heap.size = sz ∧ va_P D vwCl (WB h0 hn hd hq cZ cD cI nb v ln go mv) U.heap ∧ va_K D vwCl (TY cZ cD cI) U ∧ va_D (fun _ => True) (WB h0 hn hd hq cZ cD cI nb v ln go mv))) (wr_Qi (fun r => r = nI (gr (up nb (162 + 0) true) (up v (162 + 0) x) ln 0 4)) (fun H => va_P D vwCl (WB h0 hn hd hq cZ cD cI (up nb (162 + 0) true) (up v (162 + 0) x) ln go mv) H) (va_A (WB h0 hn hd hq cZ cD cI nb v ln go mv) sz)) 1 6 (va_A (WB h0 hn hd hq cZ cD cI nb v ln go mv) sz) := met_of_ok (c_X0_probe_x l D h0 hn hd hq cZ cD cI nb v ln go mv hln hl0 sz x hlv)
set_option maxHeartbeats 4000000 in
set_option maxRecDepth 100000 in
theorem c_X0_probeWind_x (l : Launch) (D : va_G) (h0 hn hd hq : Nat) (cZ cD cI : ClassId) (nb : Nat → Bool) (v : Nat → UInt64) (ln : Nat → Nat) (go : Bool) (mv : Int32) (hln : ∀ j, ln j ≤ 12) (hl0 : l.stackTraces = false) (sz : Nat) (x : UInt32) (hlv : wnd x = true) : vx_Met l yX0_probeWind wsX0_probeWind ({ frames := 7, cells := 1, slots := 6, locals := 102 }) (va_Pc [.ref h0, .float x] (fun U => xOK U ∧ U.heap.size = sz ∧ va_P D vwCl (WB h0 hn hd hq cZ cD cI nb v ln go mv) U.heap ∧ va_K D vwCl (TY cZ cD cI) U ∧ va_D (fun _ => True) (WB h0 hn hd hq cZ cD cI nb v ln go mv))) (wr_Qi (fun r => r = nI (gr (up nb (162 + 1) true) (up v (162 + 1) (FP.f2d x)) ln 1 4)) (fun H => va_P D vwCl (WB h0 hn hd hq cZ cD cI (up nb (162 + 1) true) (up v (162 + 1) (FP.f2d x)) ln go mv) H) (va_A (WB h0 hn hd hq cZ cD cI nb v ln go mv) sz)) (rd_X (fun E => False)) 1 6 (va_A (WB h0 hn hd hq cZ cD cI nb v ln go mv) sz) := by
  refine vx_ofW (cc := cX0_probeWind) (maxL := 2) (ret := some .int) (by decide) rfl ?_
  intro p e s m args below meth c s₁ B hml hno hv
  obtain ⟨rfl, hX, hsz_, hP, hK, hD0⟩ := hv
  have hx := B.exec
  have hb := B.bytes
  have hr := B.returns
  have hts := atoms_spec (ws := wsX0_probeWind) B.pre
  have hown : s.vm.findClass RX0 = some m.cls := findClass_of_methodNamed B.named
  have hlocks := B.notSynchronized
  subst hsz_
  have hD := hD0.self (sz := s.heap.size)
  generalize hAe : va_A (WB h0 hn hd hq cZ cD cI nb v ln go mv) s.heap.size = A at hD ⊢
  have hA : ∀ q : Nat, s.heap.size ≤ q → A q := fun q h => by rw [← hAe]; exact Or.inr h
  have hS : va_S A s.heap s.heap [] := va_S.rf
  have hl := lv_entry ([.ref h0, .float x]) (n := 2) (Nat.le_of_ble_eq_true rfl)
  rw [lg_entry_eq]
  generalize (lg_sl ([.ref h0, .float x]) ++ List.replicate (2 - (lg_sl ([.ref h0, .float x])).length) Slot.unset).toArray = ls at hl ⊢
  have hl : lv_has ls 2 [(0, .ref h0), (1, .float x)] := hl
  refine lv_fload_n hx hb dX0_probeWind_0 rfl (lv_at hl 1 rfl) ?_
  refine kx_callv (vx_runS (As := [.float x]) (rest := []) ⟨hx, hb, hml, hown, hts⟩ (c_X0_needWind l hl0 x ) (va_cwS 1 hts gX0_probeWind_X0_needWind rfl rfl rfl (by decide +kernel) ⟨Nat.le_of_ble_eq_true rfl, Nat.le_of_ble_eq_true rfl⟩) ⟨fun a U g mk q => ⟨q.1, xOK_call q.2 g mk a⟩, fun U hU hW => ⟨rfl, xOK_at hX hU hW⟩⟩ rfl rfl hl.1 rfl (lv_room (Nat.le_of_ble_eq_true rfl)) dX0_probeWind_1 ⟨Nat.le_of_ble_eq_true rfl, Nat.le_of_ble_eq_true rfl⟩) hno hlocks (fun E hE => absurd (hlv.symm.trans hE.2) (by decide)) (Nat.le_of_ble_eq_true rfl) (Nat.le_of_ble_eq_true rfl) (fun h_1 => ?_)
  refine lv_aload_n hx hb dX0_probeWind_4 rfl (lv_at hl 0 rfl) ?_
  refine lv_iconst (v := nI 1) hx hb dX0_probeWind_5 (by decide) ?_
  refine rd_calli (va_runS (As := [.int (nI 1)]) (rest := [.ref h0]) ⟨hx, hb, hml, hown, hts⟩ (c_X0_probePlace l 1 ) (va_cwS 1 hts gX0_probeWind_X0_probePlace rfl rfl rfl (by decide +kernel) ⟨Nat.le_of_ble_eq_true rfl, Nat.le_of_ble_eq_true rfl⟩) ⟨fun a U g mk q => q, fun U hU hW => ⟨rfl, trivial⟩⟩ rfl rfl hl.1 rfl (lv_room (Nat.le_of_ble_eq_true rfl)) dX0_probeWind_6 ⟨Nat.le_of_ble_eq_true rfl, Nat.le_of_ble_eq_true rfl⟩) (fun r_2 hr_2 => ?_)
  subst hr_2
  refine lv_fload_n hx hb dX0_probeWind_9 rfl (lv_at hl 1 rfl) ?_
  refine lv_f2d hx hb dX0_probeWind_10 (f2d_n hlv) ?_
  have hFc := va_free (wc := WB h0 hn hd hq cZ cD cI nb v ln go mv) hD hS hA [0, 1, 2, 3] rfl
  refine wr_calli (va_runV (As := [.int (nI (162 + 1)), .double (FP.f2d x)]) (rest := []) ⟨hx, hb, hml, hown, hts⟩ (c_X0_putNumber l D h0 hn hd hq cZ cD cI nb v ln go mv hln s.heap.size (162 + 1) (FP.f2d x) (by omega)) (cwV 2 hts gX0_probeWind_X0_putNumber rfl rfl rfl (by decide +kernel) ⟨Nat.le_of_ble_eq_true rfl, Nat.le_of_ble_eq_true rfl⟩) ⟨fun a U g mk q => ⟨q.1, q.2.1, q.2.2.1, va_K.moved (u := U) (U := U.calling g mk a) (Vm.Alike.refl U.vm) q.2.2.2.1, q.2.2.2.2⟩, va_recv hK hP (ci := 1) (q0 := 0) rfl rfl, fun U hU hW => ⟨rfl, by rw [hU], by rw [hU]; exact hP, va_K.moved hW.alike hK, hD.weaken (fun _ _ _ _ => trivial)⟩⟩ rfl rfl hl.1 rfl (lv_room (Nat.le_of_ble_eq_true rfl)) dX0_probeWind_11 ⟨Nat.le_of_ble_eq_true rfl, Nat.le_of_ble_eq_true rfl⟩) hS hFc (fun r_3 H locs hr_3 hP _ _ hS => ?_)
  subst hr_3
  have hD : va_D A (WB h0 hn hd hq cZ cD cI (up nb (162 + 1) true) (up v (162 + 1) (FP.f2d x)) ln go mv) := va_D_same (ws := WB h0 hn hd hq cZ cD cI nb v ln go mv) rfl hD
  have hP : va_P D vwCl (WB h0 hn hd hq cZ cD cI (up nb (162 + 1) true) (up v (162 + 1) (FP.f2d x)) ln go mv) H := hP
  refine lv_pop hx hb dX0_probeWind_14 rfl ?_
  refine lv_aload_n hx hb dX0_probeWind_15 rfl (lv_at hl 0 rfl) ?_
  refine lv_iconst (v := nI 1) hx hb dX0_probeWind_16 (by decide) ?_
  refine lv_iconst (v := nI 4) hx hb dX0_probeWind_17 (by decide) ?_
  refine rd_calli (va_runV (As := [.int (nI 1), .int (nI 4)]) (rest := []) ⟨hx, hb, hml, hown, hts⟩ (c_X0_gaugesRelatedToProbe l D h0 hn hd hq cZ cD cI (up nb (162 + 1) true) (up v (162 + 1) (FP.f2d x)) ln go mv hln 1 4 (by omega) (by decide)) (cwV 2 hts gX0_probeWind_X0_gaugesRelatedToProbe rfl rfl rfl (by decide +kernel) ⟨Nat.le_of_ble_eq_true rfl, Nat.le_of_ble_eq_true rfl⟩) ⟨fun a U g mk q => ⟨q.1, q.2.1, va_K.moved (u := U) (U := U.calling g mk a) (Vm.Alike.refl U.vm) q.2.2⟩, va_recv hK hP (ci := 1) (q0 := 0) rfl rfl, fun U hU hW => ⟨rfl, by rw [hU]; exact hP, va_K.moved hW.alike hK⟩⟩ rfl rfl hl.1 rfl (lv_room (Nat.le_of_ble_eq_true rfl)) dX0_probeWind_18 ⟨Nat.le_of_ble_eq_true rfl, Nat.le_of_ble_eq_true rfl⟩) (fun r_4 hr_4 => ?_)
  subst hr_4
  refine vx_ret ?_
  refine W.widen (k := 1) (n := 6) (Nat.le_of_ble_eq_true rfl) (Nat.le_of_ble_eq_true rfl) ?_
  exact W.iret (v := nI (gr (up nb (162 + 1) true) (up v (162 + 1) (FP.f2d x)) ln 1 4)) hx hb hr (fun t9 ht9 hW9 => ⟨⟨_, rfl, rfl, by rw [ht9]; exact hP⟩, hS.F ht9⟩) hS.2.2 dX0_probeWind_21
theorem c_X0_probeWind (l : Launch) (D : va_G) (h0 hn hd hq : Nat) (cZ cD cI : ClassId) (nb : Nat → Bool) (v : Nat → UInt64) (ln : Nat → Nat) (go : Bool) (mv : Int32) (hln : ∀ j, ln j ≤ 12) (hl0 : l.stackTraces = false) (sz : Nat) (x : UInt32) (hlv : wnd x = true) : Met l yX0_probeWind wsX0_probeWind ({ frames := 7, cells := 1, slots := 6, locals := 102 }) (va_Pc [.ref h0, .float x] (fun U => xOK U ∧ U.heap.size = sz ∧ va_P D vwCl (WB h0 hn hd hq cZ cD cI nb v ln go mv) U.heap ∧ va_K D vwCl (TY cZ cD cI) U ∧ va_D (fun _ => True) (WB h0 hn hd hq cZ cD cI nb v ln go mv))) (wr_Qi (fun r => r = nI (gr (up nb (162 + 1) true) (up v (162 + 1) (FP.f2d x)) ln 1 4)) (fun H => va_P D vwCl (WB h0 hn hd hq cZ cD cI (up nb (162 + 1) true) (up v (162 + 1) (FP.f2d x)) ln go mv) H) (va_A (WB h0 hn hd hq cZ cD cI nb v ln go mv) sz)) 1 6 (va_A (WB h0 hn hd hq cZ cD cI nb v ln go mv) sz) := met_of_ok (c_X0_probeWind_x l D h0 hn hd hq cZ cD cI nb v ln go mv hln hl0 sz x hlv)
set_option maxHeartbeats 4000000 in
set_option maxRecDepth 100000 in
theorem c_X0_probeOut_x (l : Launch) (D : va_G) (h0 hn hd hq : Nat) (cZ cD cI : ClassId) (nb : Nat → Bool) (v : Nat → UInt64) (ln : Nat → Nat) (go : Bool) (mv : Int32) (hln : ∀ j, ln j ≤ 12) (hl0 : l.stackTraces = false) (sz : Nat) (w : Nat) (hw : w < 2) : vx_Met l yX0_probeOut wsX0_probeOut ({ frames := 7, cells := 1, slots := 6, locals := 102 }) (va_Pc [.ref h0, .int (nI w)] (fun U => xOK U ∧ U.heap.size = sz ∧ va_P D vwCl (WB h0 hn hd hq cZ cD cI nb v ln go mv) U.heap ∧ va_K D vwCl (TY cZ cD cI) U ∧ va_D (fun _ => True) (WB h0 hn hd hq cZ cD cI nb v ln go mv))) (wr_Qi (fun r => r = nI (gr (up nb (162 + w) false) v ln w 5)) (fun H => va_P D vwCl (WB h0 hn hd hq cZ cD cI (up nb (162 + w) false) v ln go mv) H) (va_A (WB h0 hn hd hq cZ cD cI nb v ln go mv) sz)) (rd_X (fun E => False)) 1 6 (va_A (WB h0 hn hd hq cZ cD cI nb v ln go mv) sz) := by
  refine vx_ofW (cc := cX0_probeOut) (maxL := 2) (ret := some .int) (by decide) rfl ?_
  intro p e s m args below meth c s₁ B hml hno hv
  obtain ⟨rfl, hX, hsz_, hP, hK, hD0⟩ := hv
  have hx := B.exec
  have hb := B.bytes
  have hr := B.returns
  have hts := atoms_spec (ws := wsX0_probeOut) B.pre
  have hown : s.vm.findClass RX0 = some m.cls := findClass_of_methodNamed B.named
  have hlocks := B.notSynchronized
  subst hsz_
  have hD := hD0.self (sz := s.heap.size)
  generalize hAe : va_A (WB h0 hn hd hq cZ cD cI nb v ln go mv) s.heap.size = A at hD ⊢
  have hA : ∀ q : Nat, s.heap.size ≤ q → A q := fun q h => by rw [← hAe]; exact Or.inr h
  have hS : va_S A s.heap s.heap [] := va_S.rf
  have hl := lv_entry ([.ref h0, .int (nI w)]) (n := 2) (Nat.le_of_ble_eq_true rfl)
  rw [lg_entry_eq]
  generalize (lg_sl ([.ref h0, .int (nI w)]) ++ List.replicate (2 - (lg_sl ([.ref h0, .int (nI w)])).length) Slot.unset).toArray = ls at hl ⊢
  have hl : lv_has ls 2 [(0, .ref h0), (1, .int (nI w))] := hl
  refine lv_iload_n hx hb dX0_probeOut_0 rfl (lv_at hl 1 rfl) ?_
  refine kx_callv (vx_runS (As := [.int (nI w)]) (rest := []) ⟨hx, hb, hml, hown, hts⟩ (c_X0_needWhat l hl0 (nI w) ) (va_cwS 1 hts gX0_probeOut_X0_needWhat rfl rfl rfl (by decide +kernel) ⟨Nat.le_of_ble_eq_true rfl, Nat.le_of_ble_eq_true rfl⟩) ⟨fun a U g mk q => ⟨q.1, xOK_call q.2 g mk a⟩, fun U hU hW => ⟨rfl, xOK_at hX hU hW⟩⟩ rfl rfl hl.1 rfl (lv_room (Nat.le_of_ble_eq_true rfl)) dX0_probeOut_1 ⟨Nat.le_of_ble_eq_true rfl, Nat.le_of_ble_eq_true rfl⟩) hno hlocks (fun E hE => (hE.2 ⟨w, by omega, rfl⟩).elim) (Nat.le_of_ble_eq_true rfl) (Nat.le_of_ble_eq_true rfl) (fun h_1 => ?_)
  refine lv_aload_n hx hb dX0_probeOut_4 rfl (lv_at hl 0 rfl) ?_
  refine lv_iload_n hx hb dX0_probeOut_5 rfl (lv_at hl 1 rfl) ?_
  refine rd_calli (va_runS (As := [.int (nI w)]) (rest := [.ref h0]) ⟨hx, hb, hml, hown, hts⟩ (c_X0_probePlace l w ) (va_cwS 1 hts gX0_probeOut_X0_probePlace rfl rfl rfl (by decide +kernel) ⟨Nat.le_of_ble_eq_true rfl, Nat.le_of_ble_eq_true rfl⟩) ⟨fun a U g mk q => q, fun U hU hW => ⟨rfl, trivial⟩⟩ rfl rfl hl.1 rfl (lv_room (Nat.le_of_ble_eq_true rfl)) dX0_probeOut_6 ⟨Nat.le_of_ble_eq_true rfl, Nat.le_of_ble_eq_true rfl⟩) (fun r_2 hr_2 => ?_)
  subst hr_2
  have hFc := va_free (wc := WB h0 hn hd hq cZ cD cI nb v ln go mv) hD hS hA [0, 1, 2, 3] rfl
  refine wr_calli (va_runV (As := [.int (nI (162 + w))]) (rest := []) ⟨hx, hb, hml, hown, hts⟩ (c_X0_putOut l D h0 hn hd hq cZ cD cI nb v ln go mv hln s.heap.size (162 + w) (by omega)) (cwV 1 hts gX0_probeOut_X0_putOut rfl rfl rfl (by decide +kernel) ⟨Nat.le_of_ble_eq_true rfl, Nat.le_of_ble_eq_true rfl⟩) ⟨fun a U g mk q => ⟨q.1, q.2.1, q.2.2.1, va_K.moved (u := U) (U := U.calling g mk a) (Vm.Alike.refl U.vm) q.2.2.2.1, q.2.2.2.2⟩, va_recv hK hP (ci := 1) (q0 := 0) rfl rfl, fun U hU hW => ⟨rfl, by rw [hU], by rw [hU]; exact hP, va_K.moved hW.alike hK, hD.weaken (fun _ _ _ _ => trivial)⟩⟩ rfl rfl hl.1 rfl (lv_room (Nat.le_of_ble_eq_true rfl)) dX0_probeOut_9 ⟨Nat.le_of_ble_eq_true rfl, Nat.le_of_ble_eq_true rfl⟩) hS hFc (fun r_3 H locs hr_3 hP _ _ hS => ?_)
  subst hr_3
  have hD : va_D A (WB h0 hn hd hq cZ cD cI (up nb (162 + w) false) v ln go mv) := va_D_same (ws := WB h0 hn hd hq cZ cD cI nb v ln go mv) rfl hD
  have hP : va_P D vwCl (WB h0 hn hd hq cZ cD cI (up nb (162 + w) false) v ln go mv) H := hP
  refine lv_pop hx hb dX0_probeOut_12 rfl ?_
  refine lv_aload_n hx hb dX0_probeOut_13 rfl (lv_at hl 0 rfl) ?_
  refine lv_iload_n hx hb dX0_probeOut_14 rfl (lv_at hl 1 rfl) ?_
  refine lv_iconst (v := nI 5) hx hb dX0_probeOut_15 (by decide) ?_
  refine rd_calli (va_runV (As := [.int (nI w), .int (nI 5)]) (rest := []) ⟨hx, hb, hml, hown, hts⟩ (c_X0_gaugesRelatedToProbe l D h0 hn hd hq cZ cD cI (up nb (162 + w) false) v ln go mv hln w 5 (by omega) (by decide)) (cwV 2 hts gX0_probeOut_X0_gaugesRelatedToProbe rfl rfl rfl (by decide +kernel) ⟨Nat.le_of_ble_eq_true rfl, Nat.le_of_ble_eq_true rfl⟩) ⟨fun a U g mk q => ⟨q.1, q.2.1, va_K.moved (u := U) (U := U.calling g mk a) (Vm.Alike.refl U.vm) q.2.2⟩, va_recv hK hP (ci := 1) (q0 := 0) rfl rfl, fun U hU hW => ⟨rfl, by rw [hU]; exact hP, va_K.moved hW.alike hK⟩⟩ rfl rfl hl.1 rfl (lv_room (Nat.le_of_ble_eq_true rfl)) dX0_probeOut_16 ⟨Nat.le_of_ble_eq_true rfl, Nat.le_of_ble_eq_true rfl⟩) (fun r_4 hr_4 => ?_)
  subst hr_4
  refine vx_ret ?_
  refine W.widen (k := 1) (n := 6) (Nat.le_of_ble_eq_true rfl) (Nat.le_of_ble_eq_true rfl) ?_
  exact W.iret (v := nI (gr (up nb (162 + w) false) v ln w 5)) hx hb hr (fun t9 ht9 hW9 => ⟨⟨_, rfl, rfl, by rw [ht9]; exact hP⟩, hS.F ht9⟩) hS.2.2 dX0_probeOut_19
theorem c_X0_probeOut (l : Launch) (D : va_G) (h0 hn hd hq : Nat) (cZ cD cI : ClassId) (nb : Nat → Bool) (v : Nat → UInt64) (ln : Nat → Nat) (go : Bool) (mv : Int32) (hln : ∀ j, ln j ≤ 12) (hl0 : l.stackTraces = false) (sz : Nat) (w : Nat) (hw : w < 2) : Met l yX0_probeOut wsX0_probeOut ({ frames := 7, cells := 1, slots := 6, locals := 102 }) (va_Pc [.ref h0, .int (nI w)] (fun U => xOK U ∧ U.heap.size = sz ∧ va_P D vwCl (WB h0 hn hd hq cZ cD cI nb v ln go mv) U.heap ∧ va_K D vwCl (TY cZ cD cI) U ∧ va_D (fun _ => True) (WB h0 hn hd hq cZ cD cI nb v ln go mv))) (wr_Qi (fun r => r = nI (gr (up nb (162 + w) false) v ln w 5)) (fun H => va_P D vwCl (WB h0 hn hd hq cZ cD cI (up nb (162 + w) false) v ln go mv) H) (va_A (WB h0 hn hd hq cZ cD cI nb v ln go mv) sz)) 1 6 (va_A (WB h0 hn hd hq cZ cD cI nb v ln go mv) sz) := met_of_ok (c_X0_probeOut_x l D h0 hn hd hq cZ cD cI nb v ln go mv hln hl0 sz w hw)
set_option maxHeartbeats 4000000 in
set_option maxRecDepth 100000 in
theorem c_X0_run_x (l : Launch) (D : va_G) (h0 hn hd hq : Nat) (cZ cD cI : ClassId) (nb : Nat → Bool) (v : Nat → UInt64) (ln : Nat → Nat) (go : Bool) (mv : Int32) (hln : ∀ j, ln j ≤ 12) (hl0 : l.stackTraces = false) (g : Nat) (w : Nat) (k : Nat) (b : Bool) (hg : g < 6) (hw : w < 2) (hk : k < 6) : vx_Met l yX0_run wsX0_run ({ frames := 7, cells := 3, slots := 18, locals := 102 }) (va_Pc [.ref h0, .int (nI g), .int (nI w), .int (nI k), .int (b2i b)] (fun U => xOK U ∧ va_P D vwCl (WB h0 hn hd hq cZ cD cI nb v ln go mv) U.heap ∧ va_K D vwCl (TY cZ cD cI) U)) (rd_Qi (fun r => r = nI (rnC nb v ln g w k b))) (rd_X (fun E => False)) 3 18 (fun _ => False) := by
  refine vx_ofW (cc := cX0_run) (maxL := 7) (ret := some .int) (by decide) rfl ?_
  intro p e s m args below meth c s₁ B hml hno hv
  obtain ⟨rfl, hX, hP, hK⟩ := hv
  have hx := B.exec
  have hb := B.bytes
  have hr := B.returns
  have hts := atoms_spec (ws := wsX0_run) B.pre
  have hown : s.vm.findClass RX0 = some m.cls := findClass_of_methodNamed B.named
  have hlocks := B.notSynchronized
  have hl := lv_entry ([.ref h0, .int (nI g), .int (nI w), .int (nI k), .int (b2i b)]) (n := 7) (Nat.le_of_ble_eq_true rfl)
  rw [lg_entry_eq]
  generalize (lg_sl ([.ref h0, .int (nI g), .int (nI w), .int (nI k), .int (b2i b)]) ++ List.replicate (7 - (lg_sl ([.ref h0, .int (nI g), .int (nI w), .int (nI k), .int (b2i b)])).length) Slot.unset).toArray = ls at hl ⊢
  have hl : lv_has ls 7 [(0, .ref h0), (1, .int (nI g)), (2, .int (nI w)), (3, .int (nI k)), (4, .int (b2i b))] := hl
  refine lv_iload_n hx hb dX0_run_0 rfl (lv_at hl 1 rfl) ?_
  refine kx_callv (vx_runS (As := [.int (nI g)]) (rest := []) ⟨hx, hb, hml, hown, hts⟩ (c_X0_needGauge l hl0 (nI g) ) (va_cwS 1 hts gX0_run_X0_needGauge rfl rfl rfl (by decide +kernel) ⟨Nat.le_of_ble_eq_true rfl, Nat.le_of_ble_eq_true rfl⟩) ⟨fun a U g mk q => ⟨q.1, xOK_call q.2 g mk a⟩, fun U hU hW => ⟨rfl, xOK_at hX hU hW⟩⟩ rfl rfl hl.1 rfl (lv_room (Nat.le_of_ble_eq_true rfl)) dX0_run_1 ⟨Nat.le_of_ble_eq_true rfl, Nat.le_of_ble_eq_true rfl⟩) hno hlocks (fun E hE => (hE.2 ⟨g, by omega, rfl⟩).elim) (Nat.le_of_ble_eq_true rfl) (Nat.le_of_ble_eq_true rfl) (fun h_1 => ?_)
  refine lv_iload_n hx hb dX0_run_4 rfl (lv_at hl 2 rfl) ?_
  refine kx_callv (vx_runS (As := [.int (nI w)]) (rest := []) ⟨hx, hb, hml, hown, hts⟩ (c_X0_needWhat l hl0 (nI w) ) (va_cwS 1 hts gX0_run_X0_needWhat rfl rfl rfl (by decide +kernel) ⟨Nat.le_of_ble_eq_true rfl, Nat.le_of_ble_eq_true rfl⟩) ⟨fun a U g mk q => ⟨q.1, xOK_call q.2 g mk a⟩, fun U hU hW => ⟨rfl, xOK_at hX hU hW⟩⟩ rfl rfl hl.1 rfl (lv_room (Nat.le_of_ble_eq_true rfl)) dX0_run_5 ⟨Nat.le_of_ble_eq_true rfl, Nat.le_of_ble_eq_true rfl⟩) hno hlocks (fun E hE => (hE.2 ⟨w, by omega, rfl⟩).elim) (Nat.le_of_ble_eq_true rfl) (Nat.le_of_ble_eq_true rfl) (fun h_2 => ?_)
  refine lv_iload_n hx hb dX0_run_8 rfl (lv_at hl 3 rfl) ?_
  refine kx_callv (vx_runS (As := [.int (nI k)]) (rest := []) ⟨hx, hb, hml, hown, hts⟩ (c_X0_needRelation l hl0 (nI k) ) (va_cwS 1 hts gX0_run_X0_needRelation rfl rfl rfl (by decide +kernel) ⟨Nat.le_of_ble_eq_true rfl, Nat.le_of_ble_eq_true rfl⟩) ⟨fun a U g mk q => ⟨q.1, xOK_call q.2 g mk a⟩, fun U hU hW => ⟨rfl, xOK_at hX hU hW⟩⟩ rfl rfl hl.1 rfl (lv_room (Nat.le_of_ble_eq_true rfl)) dX0_run_9 ⟨Nat.le_of_ble_eq_true rfl, Nat.le_of_ble_eq_true rfl⟩) hno hlocks (fun E hE => (hE.2 ⟨k, by omega, rfl⟩).elim) (Nat.le_of_ble_eq_true rfl) (Nat.le_of_ble_eq_true rfl) (fun h_3 => ?_)
  refine lv_iload_n hx hb dX0_run_12 rfl (lv_at hl 1 rfl) ?_
  refine lv_iload_n hx hb dX0_run_13 rfl (lv_at hl 2 rfl) ?_
  refine rd_calli (va_runS (As := [.int (nI g), .int (nI w)]) (rest := []) ⟨hx, hb, hml, hown, hts⟩ (c_X0_stripOf l g w ) (va_cwS 2 hts gX0_run_X0_stripOf rfl rfl rfl (by decide +kernel) ⟨Nat.le_of_ble_eq_true rfl, Nat.le_of_ble_eq_true rfl⟩) ⟨fun a U g mk q => q, fun U hU hW => ⟨rfl, trivial⟩⟩ rfl rfl hl.1 rfl (lv_room (Nat.le_of_ble_eq_true rfl)) dX0_run_14 ⟨Nat.le_of_ble_eq_true rfl, Nat.le_of_ble_eq_true rfl⟩) (fun r_4 hr_4 => ?_)
  subst hr_4
  refine lv_istore (lv' := [(5, .int (nI (g * 2 + w))), (0, .ref h0), (1, .int (nI g)), (2, .int (nI w)), (3, .int (nI k)), (4, .int (b2i b))]) hx hb dX0_run_17 hl (by decide) rfl (fun ls hl => ?_)
  refine lv_iload_n hx hb dX0_run_19 rfl (lv_at hl 3 rfl) ?_
  refine rd_calli (va_runS (As := [.int (nI w)]) (rest := []) ⟨hx, hb, hml, hown, hts⟩ (c_X0_probePlace l w ) (va_cwS 1 hts gX0_run_X0_probePlace rfl rfl rfl (by decide +kernel) ⟨Nat.le_of_ble_eq_true rfl, Nat.le_of_ble_eq_true rfl⟩) ⟨fun a U g mk q => q, fun U hU hW => ⟨rfl, trivial⟩⟩ rfl rfl hl.1 rfl (lv_room (Nat.le_of_ble_eq_true rfl)) dX0_run_20 ⟨Nat.le_of_ble_eq_true rfl, Nat.le_of_ble_eq_true rfl⟩) (fun r_5 hr_5 => ?_)
  subst hr_5
  refine lv_istore (lv' := [(6, .int (nI (162 + w))), (5, .int (nI (g * 2 + w))), (0, .ref h0), (1, .int (nI g)), (2, .int (nI w)), (3, .int (nI k)), (4, .int (b2i b))]) hx hb dX0_run_23 hl (by decide) rfl (fun ls hl => ?_)
  refine lv_iload hx hb dX0_run_25 (lv_at hl 6 rfl) ?_
  refine kb_eq (tgt := 42) hx hb dX0_run_27 (by decide) (fun c_6 => ?_) (fun c_6 => ?_)
  · refine lv_aload_n hx hb dX0_run_42 rfl (lv_at hl 2 rfl) ?_
    refine lv_iload hx hb dX0_run_43 (lv_at hl 1 rfl) ?_
    refine lv_iload hx hb dX0_run_45 (lv_at hl 0 rfl) ?_
    refine lv_iload_n hx hb dX0_run_47 rfl (lv_at hl 5 rfl) ?_
    refine rd_calli (va_runV (As := [.int (nI (g * 2 + w)), .int (nI (162 + w)), .int (nI k)]) (rest := []) ⟨hx, hb, hml, hown, hts⟩ (c_X0_runAhead l D h0 hn hd hq cZ cD cI nb v ln go mv hln (g * 2 + w) (162 + w) k (by omega) (by omega) (by omega)) (cwV 3 hts gX0_run_X0_runAhead rfl rfl rfl (by decide +kernel) ⟨Nat.le_of_ble_eq_true rfl, Nat.le_of_ble_eq_true rfl⟩) ⟨fun a U g mk q => ⟨q.1, q.2.1, va_K.moved (u := U) (U := U.calling g mk a) (Vm.Alike.refl U.vm) q.2.2⟩, va_recv hK hP (ci := 1) (q0 := 0) rfl rfl, fun U hU hW => ⟨rfl, by rw [hU]; exact hP, va_K.moved hW.alike hK⟩⟩ rfl rfl hl.1 rfl (lv_room (Nat.le_of_ble_eq_true rfl)) dX0_run_48 ⟨Nat.le_of_ble_eq_true rfl, Nat.le_of_ble_eq_true rfl⟩) (fun r_7 hr_7 => ?_)
    subst hr_7
    refine vx_ret ?_
    refine W.widen (k := 3) (n := 18) (Nat.le_of_ble_eq_true rfl) (Nat.le_of_ble_eq_true rfl) ?_
    exact W.iret (v := nI (tk (fun j => rp nb v ((g * 2 + w) * 12 + j) (162 + w) k) (ln (g * 2 + w)) 0)) hx hb hr (fun t9 ht9 hW9 => ⟨⟨_, rfl, congrArg nI (show tk (fun j => rp nb v ((g * 2 + w) * 12 + j) (162 + w) k) (ln (g * 2 + w)) 0 = (rnC nb v ln g w k b) from by first | rfl | (simp [rnC, c_6]; done) | (simp only [Nat.add_zero] at c_6; simp [rnC, c_6]; done))⟩, ht9⟩) (fun q hq => absurd hq List.not_mem_nil) dX0_run_51
  · refine lv_aload_n hx hb dX0_run_30 rfl (lv_at hl 2 rfl) ?_
    refine lv_iload hx hb dX0_run_31 (lv_at hl 1 rfl) ?_
    refine lv_iload hx hb dX0_run_33 (lv_at hl 0 rfl) ?_
    refine lv_iload_n hx hb dX0_run_35 rfl (lv_at hl 5 rfl) ?_
    refine rd_calli (va_runV (As := [.int (nI (g * 2 + w)), .int (nI (162 + w)), .int (nI k)]) (rest := []) ⟨hx, hb, hml, hown, hts⟩ (c_X0_runBack l D h0 hn hd hq cZ cD cI nb v ln go mv hln (g * 2 + w) (162 + w) k (by omega) (by omega) (by omega)) (cwV 3 hts gX0_run_X0_runBack rfl rfl rfl (by decide +kernel) ⟨Nat.le_of_ble_eq_true rfl, Nat.le_of_ble_eq_true rfl⟩) ⟨fun a U g mk q => ⟨q.1, q.2.1, va_K.moved (u := U) (U := U.calling g mk a) (Vm.Alike.refl U.vm) q.2.2⟩, va_recv hK hP (ci := 1) (q0 := 0) rfl rfl, fun U hU hW => ⟨rfl, by rw [hU]; exact hP, va_K.moved hW.alike hK⟩⟩ rfl rfl hl.1 rfl (lv_room (Nat.le_of_ble_eq_true rfl)) dX0_run_36 ⟨Nat.le_of_ble_eq_true rfl, Nat.le_of_ble_eq_true rfl⟩) (fun r_8 hr_8 => ?_)
    subst hr_8
    refine lv_goto (tgt := 51) hx hb dX0_run_39 (by decide) ?_
    refine vx_ret ?_
    refine W.widen (k := 3) (n := 18) (Nat.le_of_ble_eq_true rfl) (Nat.le_of_ble_eq_true rfl) ?_
    exact W.iret (v := nI (tk (fun j => !rp nb v ((g * 2 + w) * 12 + (ln (g * 2 + w) - 1 - j)) (162 + w) k) (ln (g * 2 + w)) 0)) hx hb hr (fun t9 ht9 hW9 => ⟨⟨_, rfl, congrArg nI (show tk (fun j => !rp nb v ((g * 2 + w) * 12 + (ln (g * 2 + w) - 1 - j)) (162 + w) k) (ln (g * 2 + w)) 0 = (rnC nb v ln g w k b) from by first | rfl | (simp [rnC, c_6]; done) | (simp only [Nat.add_zero] at c_6; simp [rnC, c_6]; done))⟩, ht9⟩) (fun q hq => absurd hq List.not_mem_nil) dX0_run_51
theorem c_X0_run (l : Launch) (D : va_G) (h0 hn hd hq : Nat) (cZ cD cI : ClassId) (nb : Nat → Bool) (v : Nat → UInt64) (ln : Nat → Nat) (go : Bool) (mv : Int32) (hln : ∀ j, ln j ≤ 12) (hl0 : l.stackTraces = false) (g : Nat) (w : Nat) (k : Nat) (b : Bool) (hg : g < 6) (hw : w < 2) (hk : k < 6) : Met l yX0_run wsX0_run ({ frames := 7, cells := 3, slots := 18, locals := 102 }) (va_Pc [.ref h0, .int (nI g), .int (nI w), .int (nI k), .int (b2i b)] (fun U => xOK U ∧ va_P D vwCl (WB h0 hn hd hq cZ cD cI nb v ln go mv) U.heap ∧ va_K D vwCl (TY cZ cD cI) U)) (rd_Qi (fun r => r = nI (rnC nb v ln g w k b))) 3 18 (fun _ => False) := met_of_ok (c_X0_run_x l D h0 hn hd hq cZ cD cI nb v ln go mv hln hl0 g w k b hg hw hk)
set_option maxHeartbeats 4000000 in
set_option maxRecDepth 100000 in
theorem c_X0_count_x (l : Launch) (D : va_G) (h0 hn hd hq : Nat) (cZ cD cI : ClassId) (nb : Nat → Bool) (v : Nat → UInt64) (ln : Nat → Nat) (go : Bool) (mv : Int32) (hln : ∀ j, ln j ≤ 12) (hl0 : l.stackTraces = false) (g : Nat) (w : Nat) (k : Nat) (b : Bool) (hg : g < 6) (hw : w < 2) (hk : k < 6) : vx_Met l yX0_count wsX0_count ({ frames := 7, cells := 3, slots := 18, locals := 102 }) (va_Pc [.ref h0, .int (nI g), .int (nI w), .int (nI k), .int (b2i b)] (fun U => xOK U ∧ va_P D vwCl (WB h0 hn hd hq cZ cD cI nb v ln go mv) U.heap ∧ va_K D vwCl (TY cZ cD cI) U)) (rd_Qi (fun r => r = nI (ctC nb v ln g w k b))) (rd_X (fun E => False)) 3 18 (fun _ => False) := by
  refine vx_ofW (cc := cX0_count) (maxL := 8) (ret := some .int) (by decide) rfl ?_
  intro p e s m args below meth c s₁ B hml hno hv
  obtain ⟨rfl, hX, hP, hK⟩ := hv
  have hx := B.exec
  have hb := B.bytes
  have hr := B.returns
  have hts := atoms_spec (ws := wsX0_count) B.pre
  have hown : s.vm.findClass RX0 = some m.cls := findClass_of_methodNamed B.named
  have hlocks := B.notSynchronized
  have hl := lv_entry ([.ref h0, .int (nI g), .int (nI w), .int (nI k), .int (b2i b)]) (n := 8) (Nat.le_of_ble_eq_true rfl)
  rw [lg_entry_eq]
  generalize (lg_sl ([.ref h0, .int (nI g), .int (nI w), .int (nI k), .int (b2i b)]) ++ List.replicate (8 - (lg_sl ([.ref h0, .int (nI g), .int (nI w), .int (nI k), .int (b2i b)])).length) Slot.unset).toArray = ls at hl ⊢
  have hl : lv_has ls 8 [(0, .ref h0), (1, .int (nI g)), (2, .int (nI w)), (3, .int (nI k)), (4, .int (b2i b))] := hl
  have hinRX0 : ∀ w ∈ wsX00, w ∈ wsX0_count := by decide +kernel
  have hf_17 := hts (.fieldLink RX0 17 "HarbourBoard" "lengths" "[I") (by decide +kernel)
  have h1 := hln (g * 2 + w)
  refine lv_iload_n hx hb dX0_count_0 rfl (lv_at hl 1 rfl) ?_
  refine kx_callv (vx_runS (As := [.int (nI g)]) (rest := []) ⟨hx, hb, hml, hown, hts⟩ (c_X0_needGauge l hl0 (nI g) ) (va_cwS 1 hts gX0_count_X0_needGauge rfl rfl rfl (by decide +kernel) ⟨Nat.le_of_ble_eq_true rfl, Nat.le_of_ble_eq_true rfl⟩) ⟨fun a U g mk q => ⟨q.1, xOK_call q.2 g mk a⟩, fun U hU hW => ⟨rfl, xOK_at hX hU hW⟩⟩ rfl rfl hl.1 rfl (lv_room (Nat.le_of_ble_eq_true rfl)) dX0_count_1 ⟨Nat.le_of_ble_eq_true rfl, Nat.le_of_ble_eq_true rfl⟩) hno hlocks (fun E hE => (hE.2 ⟨g, by omega, rfl⟩).elim) (Nat.le_of_ble_eq_true rfl) (Nat.le_of_ble_eq_true rfl) (fun h_1 => ?_)
  refine lv_iload_n hx hb dX0_count_4 rfl (lv_at hl 2 rfl) ?_
  refine kx_callv (vx_runS (As := [.int (nI w)]) (rest := []) ⟨hx, hb, hml, hown, hts⟩ (c_X0_needWhat l hl0 (nI w) ) (va_cwS 1 hts gX0_count_X0_needWhat rfl rfl rfl (by decide +kernel) ⟨Nat.le_of_ble_eq_true rfl, Nat.le_of_ble_eq_true rfl⟩) ⟨fun a U g mk q => ⟨q.1, xOK_call q.2 g mk a⟩, fun U hU hW => ⟨rfl, xOK_at hX hU hW⟩⟩ rfl rfl hl.1 rfl (lv_room (Nat.le_of_ble_eq_true rfl)) dX0_count_5 ⟨Nat.le_of_ble_eq_true rfl, Nat.le_of_ble_eq_true rfl⟩) hno hlocks (fun E hE => (hE.2 ⟨w, by omega, rfl⟩).elim) (Nat.le_of_ble_eq_true rfl) (Nat.le_of_ble_eq_true rfl) (fun h_2 => ?_)
  refine lv_iload_n hx hb dX0_count_8 rfl (lv_at hl 3 rfl) ?_
  refine kx_callv (vx_runS (As := [.int (nI k)]) (rest := []) ⟨hx, hb, hml, hown, hts⟩ (c_X0_needRelation l hl0 (nI k) ) (va_cwS 1 hts gX0_count_X0_needRelation rfl rfl rfl (by decide +kernel) ⟨Nat.le_of_ble_eq_true rfl, Nat.le_of_ble_eq_true rfl⟩) ⟨fun a U g mk q => ⟨q.1, xOK_call q.2 g mk a⟩, fun U hU hW => ⟨rfl, xOK_at hX hU hW⟩⟩ rfl rfl hl.1 rfl (lv_room (Nat.le_of_ble_eq_true rfl)) dX0_count_9 ⟨Nat.le_of_ble_eq_true rfl, Nat.le_of_ble_eq_true rfl⟩) hno hlocks (fun E hE => (hE.2 ⟨k, by omega, rfl⟩).elim) (Nat.le_of_ble_eq_true rfl) (Nat.le_of_ble_eq_true rfl) (fun h_3 => ?_)
  refine lv_iload_n hx hb dX0_count_12 rfl (lv_at hl 1 rfl) ?_
  refine lv_iload_n hx hb dX0_count_13 rfl (lv_at hl 2 rfl) ?_
  refine rd_calli (va_runS (As := [.int (nI g), .int (nI w)]) (rest := []) ⟨hx, hb, hml, hown, hts⟩ (c_X0_stripOf l g w ) (va_cwS 2 hts gX0_count_X0_stripOf rfl rfl rfl (by decide +kernel) ⟨Nat.le_of_ble_eq_true rfl, Nat.le_of_ble_eq_true rfl⟩) ⟨fun a U g mk q => q, fun U hU hW => ⟨rfl, trivial⟩⟩ rfl rfl hl.1 rfl (lv_room (Nat.le_of_ble_eq_true rfl)) dX0_count_14 ⟨Nat.le_of_ble_eq_true rfl, Nat.le_of_ble_eq_true rfl⟩) (fun r_4 hr_4 => ?_)
  subst hr_4
  refine lv_istore (lv' := [(5, .int (nI (g * 2 + w))), (0, .ref h0), (1, .int (nI g)), (2, .int (nI w)), (3, .int (nI k)), (4, .int (b2i b))]) hx hb dX0_count_17 hl (by decide) rfl (fun ls hl => ?_)
  refine lv_iconst (v := nI 0) hx hb dX0_count_19 (by decide) ?_
  refine lv_istore (lv' := [(6, .int (nI 0)), (5, .int (nI (g * 2 + w))), (0, .ref h0), (1, .int (nI g)), (2, .int (nI w)), (3, .int (nI k)), (4, .int (b2i b))]) hx hb dX0_count_20 hl (by decide) rfl (fun ls hl => ?_)
  refine lv_iconst (v := nI 0) hx hb dX0_count_22 (by decide) ?_
  refine lv_istore (lv' := [(7, .int (nI 0)), (6, .int (nI 0)), (5, .int (nI (g * 2 + w))), (0, .ref h0), (1, .int (nI g)), (2, .int (nI w)), (3, .int (nI k)), (4, .int (b2i b))]) hx hb dX0_count_23 hl (by decide) rfl (fun ls hl => ?_)
  refine (?_ : ∀ (k_ i : Nat) (ls : Array Slot), i + k_ = ln (g * 2 + w) → lv_has ls 8 [(0, .ref h0), (1, .int (nI g)), (2, .int (nI w)), (3, .int (nI k)), (4, .int (b2i b)), (5, .int (nI (g * 2 + w))), (6, .int (nI (cn (fun j => rp nb v ((g * 2 + w) * 12 + j) (162 + w) k) i))), (7, .int (nI i))] → W p l e _ s m _ below meth c _ _ _ _ _ (F0 m 25 ls [])) (ln (g * 2 + w)) 0 ls (by omega) (lv_sub hl [3, 4, 5, 6, 7, 2, 1, 0] rfl)
  clear hl
  intro k_
  induction k_ with
  | zero =>
    intro i ls hi hl
    have hcn := cn_le (fun j => rp nb v ((g * 2 + w) * 12 + j) (162 + w) k) i
    refine lv_iload hx hb dX0_count_25 (lv_at hl 7 rfl) ?_
    refine lv_aload_n hx hb dX0_count_27 rfl (lv_at hl 0 rfl) ?_
    refine va_get (D := D) (ci := 1) (v := .ref hq) (C := RX0) (T := TX0) (N := 5) hx hb hts hinRX0 hown hK hP 0 rfl rfl 2 (by decide) hf_17 (fun _ h9 => h9) rfl dX0_count_28 ?_
    refine lv_iload hx hb dX0_count_31 (lv_at hl 5 rfl) ?_
    refine kn_iald hx hb hK hP 3 2 rfl rfl (by omega) (by decide) dX0_count_33 ?_
    refine kn_icmp_ge (tgt := 65) hx hb (by omega) (by omega) dX0_count_34 (by decide) (fun c_x => ?_) (fun h => absurd h (by omega))
    refine lv_iload hx hb dX0_count_65 (lv_at hl 4 rfl) ?_
    refine kb_eq (tgt := 83) hx hb dX0_count_67 (by decide) (fun c_5 => ?_) (fun c_5 => ?_)
    · refine lv_iload hx hb dX0_count_83 (lv_at hl 6 rfl) ?_
      refine vx_ret ?_
      refine W.widen (k := 3) (n := 18) (Nat.le_of_ble_eq_true rfl) (Nat.le_of_ble_eq_true rfl) ?_
      exact W.iret (v := nI (cn (fun j => rp nb v ((g * 2 + w) * 12 + j) (162 + w) k) i)) hx hb hr (fun t9 ht9 hW9 => ⟨⟨_, rfl, congrArg nI (by simp [ctC, c_5, show i = ln (g * 2 + w) by omega])⟩, ht9⟩) (fun q hq => absurd hq List.not_mem_nil) dX0_count_85
    · refine lv_aload_n hx hb dX0_count_70 rfl (lv_at hl 0 rfl) ?_
      refine va_get (D := D) (ci := 1) (v := .ref hq) (C := RX0) (T := TX0) (N := 5) hx hb hts hinRX0 hown hK hP 0 rfl rfl 2 (by decide) hf_17 (fun _ h9 => h9) rfl dX0_count_71 ?_
      refine lv_iload hx hb dX0_count_74 (lv_at hl 5 rfl) ?_
      refine kn_iald hx hb hK hP 3 2 rfl rfl (by omega) (by decide) dX0_count_76 ?_
      refine lv_iload hx hb dX0_count_77 (lv_at hl 6 rfl) ?_
      refine kn_isub hx hb (by omega) dX0_count_79 ?_
      refine lv_goto (tgt := 85) hx hb dX0_count_80 (by decide) ?_
      refine vx_ret ?_
      refine W.widen (k := 3) (n := 18) (Nat.le_of_ble_eq_true rfl) (Nat.le_of_ble_eq_true rfl) ?_
      exact W.iret (v := nI ((ln (g * 2 + w)) - (cn (fun j => rp nb v ((g * 2 + w) * 12 + j) (162 + w) k) i))) hx hb hr (fun t9 ht9 hW9 => ⟨⟨_, rfl, congrArg nI (by simp [ctC, c_5, show i = ln (g * 2 + w) by omega])⟩, ht9⟩) (fun q hq => absurd hq List.not_mem_nil) dX0_count_85
  | succ k_ ih =>
    intro i ls hi hl
    have hcn := cn_le (fun j => rp nb v ((g * 2 + w) * 12 + j) (162 + w) k) i
    refine lv_iload hx hb dX0_count_25 (lv_at hl 7 rfl) ?_
    refine lv_aload_n hx hb dX0_count_27 rfl (lv_at hl 0 rfl) ?_
    refine va_get (D := D) (ci := 1) (v := .ref hq) (C := RX0) (T := TX0) (N := 5) hx hb hts hinRX0 hown hK hP 0 rfl rfl 2 (by decide) hf_17 (fun _ h9 => h9) rfl dX0_count_28 ?_
    refine lv_iload hx hb dX0_count_31 (lv_at hl 5 rfl) ?_
    refine kn_iald hx hb hK hP 3 2 rfl rfl (by omega) (by decide) dX0_count_33 ?_
    refine kn_icmp_ge (tgt := 65) hx hb (by omega) (by omega) dX0_count_34 (by decide) (fun h => absurd h (by omega)) (fun c_x => ?_)
    refine lv_aload_n hx hb dX0_count_37 rfl (lv_at hl 0 rfl) ?_
    refine lv_iload hx hb dX0_count_38 (lv_at hl 5 rfl) ?_
    refine lv_iload hx hb dX0_count_40 (lv_at hl 7 rfl) ?_
    refine rd_calli (va_runS (As := [.int (nI (g * 2 + w)), .int (nI i)]) (rest := [.ref h0]) ⟨hx, hb, hml, hown, hts⟩ (c_X0_stripPlace l (g * 2 + w) i ) (va_cwS 2 hts gX0_count_X0_stripPlace rfl rfl rfl (by decide +kernel) ⟨Nat.le_of_ble_eq_true rfl, Nat.le_of_ble_eq_true rfl⟩) ⟨fun a U g mk q => q, fun U hU hW => ⟨rfl, trivial⟩⟩ rfl rfl hl.1 rfl (lv_room (Nat.le_of_ble_eq_true rfl)) dX0_count_42 ⟨Nat.le_of_ble_eq_true rfl, Nat.le_of_ble_eq_true rfl⟩) (fun r_6 hr_6 => ?_)
    subst hr_6
    refine lv_iload_n hx hb dX0_count_45 rfl (lv_at hl 2 rfl) ?_
    refine rd_calli (va_runS (As := [.int (nI w)]) (rest := [.int (nI ((g * 2 + w) * 12 + i)), .ref h0]) ⟨hx, hb, hml, hown, hts⟩ (c_X0_probePlace l w ) (va_cwS 1 hts gX0_count_X0_probePlace rfl rfl rfl (by decide +kernel) ⟨Nat.le_of_ble_eq_true rfl, Nat.le_of_ble_eq_true rfl⟩) ⟨fun a U g mk q => q, fun U hU hW => ⟨rfl, trivial⟩⟩ rfl rfl hl.1 rfl (lv_room (Nat.le_of_ble_eq_true rfl)) dX0_count_46 ⟨Nat.le_of_ble_eq_true rfl, Nat.le_of_ble_eq_true rfl⟩) (fun r_7 hr_7 => ?_)
    subst hr_7
    refine lv_iload_n hx hb dX0_count_49 rfl (lv_at hl 3 rfl) ?_
    refine rd_calli (va_runV (As := [.int (nI ((g * 2 + w) * 12 + i)), .int (nI (162 + w)), .int (nI k)]) (rest := []) ⟨hx, hb, hml, hown, hts⟩ (c_X0_isRelated l D h0 hn hd hq cZ cD cI nb v ln go mv hln ((g * 2 + w) * 12 + i) (162 + w) k (by omega) (by omega) (by omega)) (cwV 3 hts gX0_count_X0_isRelated rfl rfl rfl (by decide +kernel) ⟨Nat.le_of_ble_eq_true rfl, Nat.le_of_ble_eq_true rfl⟩) ⟨fun a U g mk q => ⟨q.1, q.2.1, va_K.moved (u := U) (U := U.calling g mk a) (Vm.Alike.refl U.vm) q.2.2⟩, va_recv hK hP (ci := 1) (q0 := 0) rfl rfl, fun U hU hW => ⟨rfl, by rw [hU]; exact hP, va_K.moved hW.alike hK⟩⟩ rfl rfl hl.1 rfl (lv_room (Nat.le_of_ble_eq_true rfl)) dX0_count_50 ⟨Nat.le_of_ble_eq_true rfl, Nat.le_of_ble_eq_true rfl⟩) (fun r_8 hr_8 => ?_)
    subst hr_8
    refine kb_eq (tgt := 59) hx hb dX0_count_53 (by decide) (fun c_9 => ?_) (fun c_9 => ?_)
    · refine lv_iinc (v := nI (i + 1)) (lv' := [(7, .int (nI (i + 1))), (0, .ref h0), (1, .int (nI g)), (2, .int (nI w)), (3, .int (nI k)), (4, .int (b2i b)), (5, .int (nI (g * 2 + w))), (6, .int (nI (cn (fun j => rp nb v ((g * 2 + w) * 12 + j) (162 + w) k) i)))]) hx hb dX0_count_59 hl (k := 7) rfl (nI_add i 1) (by decide) rfl (fun ls hl => ?_)
      refine lv_goto (tgt := 25) hx hb dX0_count_62 (by decide) ?_
      have e_1 : cn (fun j => rp nb v ((g * 2 + w) * 12 + j) (162 + w) k) (i + 1) = cn (fun j => rp nb v ((g * 2 + w) * 12 + j) (162 + w) k) i := cn_f (P := (fun j => rp nb v ((g * 2 + w) * 12 + j) (162 + w) k)) (i := i) c_9
      exact ih (i + 1) ls (by omega) (by rw [e_1]; exact lv_sub hl [1, 2, 3, 4, 5, 6, 7, 0] rfl)
    · refine lv_iinc (v := nI (cn (fun j => rp nb v ((g * 2 + w) * 12 + j) (162 + w) k) i + 1)) (lv' := [(6, .int (nI (cn (fun j => rp nb v ((g * 2 + w) * 12 + j) (162 + w) k) i + 1))), (0, .ref h0), (1, .int (nI g)), (2, .int (nI w)), (3, .int (nI k)), (4, .int (b2i b)), (5, .int (nI (g * 2 + w))), (7, .int (nI i))]) hx hb dX0_count_56 hl (k := 6) rfl (nI_add (cn (fun j => rp nb v ((g * 2 + w) * 12 + j) (162 + w) k) i) 1) (by decide) rfl (fun ls hl => ?_)
      refine lv_iinc (v := nI (i + 1)) (lv' := [(7, .int (nI (i + 1))), (6, .int (nI (cn (fun j => rp nb v ((g * 2 + w) * 12 + j) (162 + w) k) i + 1))), (0, .ref h0), (1, .int (nI g)), (2, .int (nI w)), (3, .int (nI k)), (4, .int (b2i b)), (5, .int (nI (g * 2 + w)))]) hx hb dX0_count_59 hl (k := 7) rfl (nI_add i 1) (by decide) rfl (fun ls hl => ?_)
      refine lv_goto (tgt := 25) hx hb dX0_count_62 (by decide) ?_
      have e_1 : cn (fun j => rp nb v ((g * 2 + w) * 12 + j) (162 + w) k) (i + 1) = cn (fun j => rp nb v ((g * 2 + w) * 12 + j) (162 + w) k) i + 1 := cn_t (P := (fun j => rp nb v ((g * 2 + w) * 12 + j) (162 + w) k)) (i := i) c_9
      exact ih (i + 1) ls (by omega) (by rw [e_1]; exact lv_sub hl [2, 3, 4, 5, 6, 7, 1, 0] rfl)
theorem c_X0_count (l : Launch) (D : va_G) (h0 hn hd hq : Nat) (cZ cD cI : ClassId) (nb : Nat → Bool) (v : Nat → UInt64) (ln : Nat → Nat) (go : Bool) (mv : Int32) (hln : ∀ j, ln j ≤ 12) (hl0 : l.stackTraces = false) (g : Nat) (w : Nat) (k : Nat) (b : Bool) (hg : g < 6) (hw : w < 2) (hk : k < 6) : Met l yX0_count wsX0_count ({ frames := 7, cells := 3, slots := 18, locals := 102 }) (va_Pc [.ref h0, .int (nI g), .int (nI w), .int (nI k), .int (b2i b)] (fun U => xOK U ∧ va_P D vwCl (WB h0 hn hd hq cZ cD cI nb v ln go mv) U.heap ∧ va_K D vwCl (TY cZ cD cI) U)) (rd_Qi (fun r => r = nI (ctC nb v ln g w k b))) 3 18 (fun _ => False) := met_of_ok (c_X0_count_x l D h0 hn hd hq cZ cD cI nb v ln go mv hln hl0 g w k b hg hw hk)
set_option maxHeartbeats 4000000 in
set_option maxRecDepth 100000 in
theorem c_X0_holds_x (l : Launch) (D : va_G) (h0 hn hd hq : Nat) (cZ cD cI : ClassId) (nb : Nat → Bool) (v : Nat → UInt64) (ln : Nat → Nat) (go : Bool) (mv : Int32) (hln : ∀ j, ln j ≤ 12) (hl0 : l.stackTraces = false) (g : Nat) (h : Nat) (w : Nat) (k : Nat) (hg : g < 6) (hh : h < 6) (hw : w < 2) (hk : k < 6) : vx_Met l yX0_holds wsX0_holds ({ frames := 7, cells := 4, slots := 24, locals := 102 }) (va_Pc [.ref h0, .int (nI g), .int (nI h), .int (nI w), .int (nI k)] (fun U => xOK U ∧ va_P D vwCl (WB h0 hn hd hq cZ cD cI nb v ln go mv) U.heap ∧ va_K D vwCl (TY cZ cD cI) U)) (rd_Qi (fun r => r = b2i (rp nb v (lp ln (g * 2 + w)) (lp ln (h * 2 + w)) k))) (rd_X (fun E => False)) 4 24 (fun _ => False) := by
  refine vx_ofW (cc := cX0_holds) (maxL := 5) (ret := some .boolean) (by decide) rfl ?_
  intro p e s m args below meth c s₁ B hml hno hv
  obtain ⟨rfl, hX, hP, hK⟩ := hv
  have hx := B.exec
  have hb := B.bytes
  have hr := B.returns
  have hts := atoms_spec (ws := wsX0_holds) B.pre
  have hown : s.vm.findClass RX0 = some m.cls := findClass_of_methodNamed B.named
  have hlocks := B.notSynchronized
  have hl := lv_entry ([.ref h0, .int (nI g), .int (nI h), .int (nI w), .int (nI k)]) (n := 5) (Nat.le_of_ble_eq_true rfl)
  rw [lg_entry_eq]
  generalize (lg_sl ([.ref h0, .int (nI g), .int (nI h), .int (nI w), .int (nI k)]) ++ List.replicate (5 - (lg_sl ([.ref h0, .int (nI g), .int (nI h), .int (nI w), .int (nI k)])).length) Slot.unset).toArray = ls at hl ⊢
  have hl : lv_has ls 5 [(0, .ref h0), (1, .int (nI g)), (2, .int (nI h)), (3, .int (nI w)), (4, .int (nI k))] := hl
  refine lv_iload_n hx hb dX0_holds_0 rfl (lv_at hl 1 rfl) ?_
  refine kx_callv (vx_runS (As := [.int (nI g)]) (rest := []) ⟨hx, hb, hml, hown, hts⟩ (c_X0_needGauge l hl0 (nI g) ) (va_cwS 1 hts gX0_holds_X0_needGauge rfl rfl rfl (by decide +kernel) ⟨Nat.le_of_ble_eq_true rfl, Nat.le_of_ble_eq_true rfl⟩) ⟨fun a U g mk q => ⟨q.1, xOK_call q.2 g mk a⟩, fun U hU hW => ⟨rfl, xOK_at hX hU hW⟩⟩ rfl rfl hl.1 rfl (lv_room (Nat.le_of_ble_eq_true rfl)) dX0_holds_1 ⟨Nat.le_of_ble_eq_true rfl, Nat.le_of_ble_eq_true rfl⟩) hno hlocks (fun E hE => (hE.2 ⟨g, by omega, rfl⟩).elim) (Nat.le_of_ble_eq_true rfl) (Nat.le_of_ble_eq_true rfl) (fun h_1 => ?_)
  refine lv_iload_n hx hb dX0_holds_4 rfl (lv_at hl 2 rfl) ?_
  refine kx_callv (vx_runS (As := [.int (nI h)]) (rest := []) ⟨hx, hb, hml, hown, hts⟩ (c_X0_needGauge l hl0 (nI h) ) (va_cwS 1 hts gX0_holds_X0_needGauge rfl rfl rfl (by decide +kernel) ⟨Nat.le_of_ble_eq_true rfl, Nat.le_of_ble_eq_true rfl⟩) ⟨fun a U g mk q => ⟨q.1, xOK_call q.2 g mk a⟩, fun U hU hW => ⟨rfl, xOK_at hX hU hW⟩⟩ rfl rfl hl.1 rfl (lv_room (Nat.le_of_ble_eq_true rfl)) dX0_holds_5 ⟨Nat.le_of_ble_eq_true rfl, Nat.le_of_ble_eq_true rfl⟩) hno hlocks (fun E hE => (hE.2 ⟨h, by omega, rfl⟩).elim) (Nat.le_of_ble_eq_true rfl) (Nat.le_of_ble_eq_true rfl) (fun h_2 => ?_)
  refine lv_iload_n hx hb dX0_holds_8 rfl (lv_at hl 3 rfl) ?_
  refine kx_callv (vx_runS (As := [.int (nI w)]) (rest := []) ⟨hx, hb, hml, hown, hts⟩ (c_X0_needWhat l hl0 (nI w) ) (va_cwS 1 hts gX0_holds_X0_needWhat rfl rfl rfl (by decide +kernel) ⟨Nat.le_of_ble_eq_true rfl, Nat.le_of_ble_eq_true rfl⟩) ⟨fun a U g mk q => ⟨q.1, xOK_call q.2 g mk a⟩, fun U hU hW => ⟨rfl, xOK_at hX hU hW⟩⟩ rfl rfl hl.1 rfl (lv_room (Nat.le_of_ble_eq_true rfl)) dX0_holds_9 ⟨Nat.le_of_ble_eq_true rfl, Nat.le_of_ble_eq_true rfl⟩) hno hlocks (fun E hE => (hE.2 ⟨w, by omega, rfl⟩).elim) (Nat.le_of_ble_eq_true rfl) (Nat.le_of_ble_eq_true rfl) (fun h_3 => ?_)
  refine lv_iload hx hb dX0_holds_12 (lv_at hl 4 rfl) ?_
  refine kx_callv (vx_runS (As := [.int (nI k)]) (rest := []) ⟨hx, hb, hml, hown, hts⟩ (c_X0_needRelation l hl0 (nI k) ) (va_cwS 1 hts gX0_holds_X0_needRelation rfl rfl rfl (by decide +kernel) ⟨Nat.le_of_ble_eq_true rfl, Nat.le_of_ble_eq_true rfl⟩) ⟨fun a U g mk q => ⟨q.1, xOK_call q.2 g mk a⟩, fun U hU hW => ⟨rfl, xOK_at hX hU hW⟩⟩ rfl rfl hl.1 rfl (lv_room (Nat.le_of_ble_eq_true rfl)) dX0_holds_14 ⟨Nat.le_of_ble_eq_true rfl, Nat.le_of_ble_eq_true rfl⟩) hno hlocks (fun E hE => (hE.2 ⟨k, by omega, rfl⟩).elim) (Nat.le_of_ble_eq_true rfl) (Nat.le_of_ble_eq_true rfl) (fun h_4 => ?_)
  refine lv_aload_n hx hb dX0_holds_17 rfl (lv_at hl 0 rfl) ?_
  refine lv_aload_n hx hb dX0_holds_18 rfl (lv_at hl 0 rfl) ?_
  refine lv_iload_n hx hb dX0_holds_19 rfl (lv_at hl 1 rfl) ?_
  refine lv_iload_n hx hb dX0_holds_20 rfl (lv_at hl 3 rfl) ?_
  refine rd_calli (va_runV (As := [.int (nI g), .int (nI w)]) (rest := [.ref h0]) ⟨hx, hb, hml, hown, hts⟩ (c_X0_latestPlace l D h0 hn hd hq cZ cD cI nb v ln go mv hln g w (by omega) (by omega)) (cwV 2 hts gX0_holds_X0_latestPlace rfl rfl rfl (by decide +kernel) ⟨Nat.le_of_ble_eq_true rfl, Nat.le_of_ble_eq_true rfl⟩) ⟨fun a U g mk q => ⟨q.1, q.2.1, va_K.moved (u := U) (U := U.calling g mk a) (Vm.Alike.refl U.vm) q.2.2⟩, va_recv hK hP (ci := 1) (q0 := 0) rfl rfl, fun U hU hW => ⟨rfl, by rw [hU]; exact hP, va_K.moved hW.alike hK⟩⟩ rfl rfl hl.1 rfl (lv_room (Nat.le_of_ble_eq_true rfl)) dX0_holds_21 ⟨Nat.le_of_ble_eq_true rfl, Nat.le_of_ble_eq_true rfl⟩) (fun r_5 hr_5 => ?_)
  subst hr_5
  refine lv_aload_n hx hb dX0_holds_24 rfl (lv_at hl 0 rfl) ?_
  refine lv_iload_n hx hb dX0_holds_25 rfl (lv_at hl 2 rfl) ?_
  refine lv_iload_n hx hb dX0_holds_26 rfl (lv_at hl 3 rfl) ?_
  refine rd_calli (va_runV (As := [.int (nI h), .int (nI w)]) (rest := [.int (nI (lp ln (g * 2 + w))), .ref h0]) ⟨hx, hb, hml, hown, hts⟩ (c_X0_latestPlace l D h0 hn hd hq cZ cD cI nb v ln go mv hln h w (by omega) (by omega)) (cwV 2 hts gX0_holds_X0_latestPlace rfl rfl rfl (by decide +kernel) ⟨Nat.le_of_ble_eq_true rfl, Nat.le_of_ble_eq_true rfl⟩) ⟨fun a U g mk q => ⟨q.1, q.2.1, va_K.moved (u := U) (U := U.calling g mk a) (Vm.Alike.refl U.vm) q.2.2⟩, va_recv hK hP (ci := 1) (q0 := 0) rfl rfl, fun U hU hW => ⟨rfl, by rw [hU]; exact hP, va_K.moved hW.alike hK⟩⟩ rfl rfl hl.1 rfl (lv_room (Nat.le_of_ble_eq_true rfl)) dX0_holds_27 ⟨Nat.le_of_ble_eq_true rfl, Nat.le_of_ble_eq_true rfl⟩) (fun r_6 hr_6 => ?_)
  subst hr_6
  refine lv_iload hx hb dX0_holds_30 (lv_at hl 4 rfl) ?_
  refine rd_calli (va_runV (As := [.int (nI (lp ln (g * 2 + w))), .int (nI (lp ln (h * 2 + w))), .int (nI k)]) (rest := []) ⟨hx, hb, hml, hown, hts⟩ (c_X0_isRelated l D h0 hn hd hq cZ cD cI nb v ln go mv hln (lp ln (g * 2 + w)) (lp ln (h * 2 + w)) k (lp_lt hln (by omega)) (lp_lt hln (by omega)) (by omega)) (cwV 3 hts gX0_holds_X0_isRelated rfl rfl rfl (by decide +kernel) ⟨Nat.le_of_ble_eq_true rfl, Nat.le_of_ble_eq_true rfl⟩) ⟨fun a U g mk q => ⟨q.1, q.2.1, va_K.moved (u := U) (U := U.calling g mk a) (Vm.Alike.refl U.vm) q.2.2⟩, va_recv hK hP (ci := 1) (q0 := 0) rfl rfl, fun U hU hW => ⟨rfl, by rw [hU]; exact hP, va_K.moved hW.alike hK⟩⟩ rfl rfl hl.1 rfl (lv_room (Nat.le_of_ble_eq_true rfl)) dX0_holds_32 ⟨Nat.le_of_ble_eq_true rfl, Nat.le_of_ble_eq_true rfl⟩) (fun r_7 hr_7 => ?_)
  subst hr_7
  refine vx_ret ?_
  refine W.widen (k := 4) (n := 24) (Nat.le_of_ble_eq_true rfl) (Nat.le_of_ble_eq_true rfl) ?_
  exact W.zret (v := b2i (rp nb v (lp ln (g * 2 + w)) (lp ln (h * 2 + w)) k)) hx hb hr (b2i_nar _) (fun t9 ht9 hW9 => ⟨⟨_, rfl, rfl⟩, ht9⟩) (fun q hq => absurd hq List.not_mem_nil) dX0_holds_35
theorem c_X0_holds (l : Launch) (D : va_G) (h0 hn hd hq : Nat) (cZ cD cI : ClassId) (nb : Nat → Bool) (v : Nat → UInt64) (ln : Nat → Nat) (go : Bool) (mv : Int32) (hln : ∀ j, ln j ≤ 12) (hl0 : l.stackTraces = false) (g : Nat) (h : Nat) (w : Nat) (k : Nat) (hg : g < 6) (hh : h < 6) (hw : w < 2) (hk : k < 6) : Met l yX0_holds wsX0_holds ({ frames := 7, cells := 4, slots := 24, locals := 102 }) (va_Pc [.ref h0, .int (nI g), .int (nI h), .int (nI w), .int (nI k)] (fun U => xOK U ∧ va_P D vwCl (WB h0 hn hd hq cZ cD cI nb v ln go mv) U.heap ∧ va_K D vwCl (TY cZ cD cI) U)) (rd_Qi (fun r => r = b2i (rp nb v (lp ln (g * 2 + w)) (lp ln (h * 2 + w)) k))) 4 24 (fun _ => False) := met_of_ok (c_X0_holds_x l D h0 hn hd hq cZ cD cI nb v ln go mv hln hl0 g h w k hg hh hw hk)
set_option maxHeartbeats 4000000 in
set_option maxRecDepth 100000 in
theorem c_X0_pick_x (l : Launch) (D : va_G) (h0 hn hd hq : Nat) (cZ cD cI : ClassId) (nb : Nat → Bool) (v : Nat → UInt64) (ln : Nat → Nat) (go : Bool) (mv : Int32) (hln : ∀ j, ln j ≤ 12) (hl0 : l.stackTraces = false) (g : Nat) (h : Nat) (w : Nat) (k : Nat) (hg : g < 6) (hh : h < 6) (hw : w < 2) (hk : k < 6) : vx_Met l yX0_pick wsX0_pick ({ frames := 7, cells := 4, slots := 24, locals := 102 }) (va_Pc [.ref h0, .int (nI g), .int (nI h), .int (nI w), .int (nI k)] (fun U => xOK U ∧ va_P D vwCl (WB h0 hn hd hq cZ cD cI nb v ln go mv) U.heap ∧ va_K D vwCl (TY cZ cD cI) U)) (rd_Qi (fun r => r = (if rp nb v (lp ln (g * 2 + w)) (lp ln (h * 2 + w)) k = true then nI g else if rp nb v (lp ln (h * 2 + w)) (lp ln (g * 2 + w)) k = true then nI h else (-1)))) (rd_X (fun E => False)) 4 24 (fun _ => False) := by
  refine vx_ofW (cc := cX0_pick) (maxL := 7) (ret := some .int) (by decide) rfl ?_
  intro p e s m args below meth c s₁ B hml hno hv
  obtain ⟨rfl, hX, hP, hK⟩ := hv
  have hx := B.exec
  have hb := B.bytes
  have hr := B.returns
  have hts := atoms_spec (ws := wsX0_pick) B.pre
  have hown : s.vm.findClass RX0 = some m.cls := findClass_of_methodNamed B.named
  have hlocks := B.notSynchronized
  have hl := lv_entry ([.ref h0, .int (nI g), .int (nI h), .int (nI w), .int (nI k)]) (n := 7) (Nat.le_of_ble_eq_true rfl)
  rw [lg_entry_eq]
  generalize (lg_sl ([.ref h0, .int (nI g), .int (nI h), .int (nI w), .int (nI k)]) ++ List.replicate (7 - (lg_sl ([.ref h0, .int (nI g), .int (nI h), .int (nI w), .int (nI k)])).length) Slot.unset).toArray = ls at hl ⊢
  have hl : lv_has ls 7 [(0, .ref h0), (1, .int (nI g)), (2, .int (nI h)), (3, .int (nI w)), (4, .int (nI k))] := hl
  refine lv_iload_n hx hb dX0_pick_0 rfl (lv_at hl 1 rfl) ?_
  refine kx_callv (vx_runS (As := [.int (nI g)]) (rest := []) ⟨hx, hb, hml, hown, hts⟩ (c_X0_needGauge l hl0 (nI g) ) (va_cwS 1 hts gX0_pick_X0_needGauge rfl rfl rfl (by decide +kernel) ⟨Nat.le_of_ble_eq_true rfl, Nat.le_of_ble_eq_true rfl⟩) ⟨fun a U g mk q => ⟨q.1, xOK_call q.2 g mk a⟩, fun U hU hW => ⟨rfl, xOK_at hX hU hW⟩⟩ rfl rfl hl.1 rfl (lv_room (Nat.le_of_ble_eq_true rfl)) dX0_pick_1 ⟨Nat.le_of_ble_eq_true rfl, Nat.le_of_ble_eq_true rfl⟩) hno hlocks (fun E hE => (hE.2 ⟨g, by omega, rfl⟩).elim) (Nat.le_of_ble_eq_true rfl) (Nat.le_of_ble_eq_true rfl) (fun h_1 => ?_)
  refine lv_iload_n hx hb dX0_pick_4 rfl (lv_at hl 2 rfl) ?_
  refine kx_callv (vx_runS (As := [.int (nI h)]) (rest := []) ⟨hx, hb, hml, hown, hts⟩ (c_X0_needGauge l hl0 (nI h) ) (va_cwS 1 hts gX0_pick_X0_needGauge rfl rfl rfl (by decide +kernel) ⟨Nat.le_of_ble_eq_true rfl, Nat.le_of_ble_eq_true rfl⟩) ⟨fun a U g mk q => ⟨q.1, xOK_call q.2 g mk a⟩, fun U hU hW => ⟨rfl, xOK_at hX hU hW⟩⟩ rfl rfl hl.1 rfl (lv_room (Nat.le_of_ble_eq_true rfl)) dX0_pick_5 ⟨Nat.le_of_ble_eq_true rfl, Nat.le_of_ble_eq_true rfl⟩) hno hlocks (fun E hE => (hE.2 ⟨h, by omega, rfl⟩).elim) (Nat.le_of_ble_eq_true rfl) (Nat.le_of_ble_eq_true rfl) (fun h_2 => ?_)
  refine lv_iload_n hx hb dX0_pick_8 rfl (lv_at hl 3 rfl) ?_
  refine kx_callv (vx_runS (As := [.int (nI w)]) (rest := []) ⟨hx, hb, hml, hown, hts⟩ (c_X0_needWhat l hl0 (nI w) ) (va_cwS 1 hts gX0_pick_X0_needWhat rfl rfl rfl (by decide +kernel) ⟨Nat.le_of_ble_eq_true rfl, Nat.le_of_ble_eq_true rfl⟩) ⟨fun a U g mk q => ⟨q.1, xOK_call q.2 g mk a⟩, fun U hU hW => ⟨rfl, xOK_at hX hU hW⟩⟩ rfl rfl hl.1 rfl (lv_room (Nat.le_of_ble_eq_true rfl)) dX0_pick_9 ⟨Nat.le_of_ble_eq_true rfl, Nat.le_of_ble_eq_true rfl⟩) hno hlocks (fun E hE => (hE.2 ⟨w, by omega, rfl⟩).elim) (Nat.le_of_ble_eq_true rfl) (Nat.le_of_ble_eq_true rfl) (fun h_3 => ?_)
  refine lv_iload hx hb dX0_pick_12 (lv_at hl 4 rfl) ?_
  refine kx_callv (vx_runS (As := [.int (nI k)]) (rest := []) ⟨hx, hb, hml, hown, hts⟩ (c_X0_needRelation l hl0 (nI k) ) (va_cwS 1 hts gX0_pick_X0_needRelation rfl rfl rfl (by decide +kernel) ⟨Nat.le_of_ble_eq_true rfl, Nat.le_of_ble_eq_true rfl⟩) ⟨fun a U g mk q => ⟨q.1, xOK_call q.2 g mk a⟩, fun U hU hW => ⟨rfl, xOK_at hX hU hW⟩⟩ rfl rfl hl.1 rfl (lv_room (Nat.le_of_ble_eq_true rfl)) dX0_pick_14 ⟨Nat.le_of_ble_eq_true rfl, Nat.le_of_ble_eq_true rfl⟩) hno hlocks (fun E hE => (hE.2 ⟨k, by omega, rfl⟩).elim) (Nat.le_of_ble_eq_true rfl) (Nat.le_of_ble_eq_true rfl) (fun h_4 => ?_)
  refine lv_aload_n hx hb dX0_pick_17 rfl (lv_at hl 0 rfl) ?_
  refine lv_iload_n hx hb dX0_pick_18 rfl (lv_at hl 1 rfl) ?_
  refine lv_iload_n hx hb dX0_pick_19 rfl (lv_at hl 3 rfl) ?_
  refine rd_calli (va_runV (As := [.int (nI g), .int (nI w)]) (rest := []) ⟨hx, hb, hml, hown, hts⟩ (c_X0_latestPlace l D h0 hn hd hq cZ cD cI nb v ln go mv hln g w (by omega) (by omega)) (cwV 2 hts gX0_pick_X0_latestPlace rfl rfl rfl (by decide +kernel) ⟨Nat.le_of_ble_eq_true rfl, Nat.le_of_ble_eq_true rfl⟩) ⟨fun a U g mk q => ⟨q.1, q.2.1, va_K.moved (u := U) (U := U.calling g mk a) (Vm.Alike.refl U.vm) q.2.2⟩, va_recv hK hP (ci := 1) (q0 := 0) rfl rfl, fun U hU hW => ⟨rfl, by rw [hU]; exact hP, va_K.moved hW.alike hK⟩⟩ rfl rfl hl.1 rfl (lv_room (Nat.le_of_ble_eq_true rfl)) dX0_pick_20 ⟨Nat.le_of_ble_eq_true rfl, Nat.le_of_ble_eq_true rfl⟩) (fun r_5 hr_5 => ?_)
  subst hr_5
  refine lv_istore (lv' := [(5, .int (nI (lp ln (g * 2 + w)))), (0, .ref h0), (1, .int (nI g)), (2, .int (nI h)), (3, .int (nI w)), (4, .int (nI k))]) hx hb dX0_pick_23 hl (by decide) rfl (fun ls hl => ?_)
  refine lv_aload_n hx hb dX0_pick_25 rfl (lv_at hl 1 rfl) ?_
  refine lv_iload_n hx hb dX0_pick_26 rfl (lv_at hl 3 rfl) ?_
  refine lv_iload_n hx hb dX0_pick_27 rfl (lv_at hl 4 rfl) ?_
  refine rd_calli (va_runV (As := [.int (nI h), .int (nI w)]) (rest := []) ⟨hx, hb, hml, hown, hts⟩ (c_X0_latestPlace l D h0 hn hd hq cZ cD cI nb v ln go mv hln h w (by omega) (by omega)) (cwV 2 hts gX0_pick_X0_latestPlace rfl rfl rfl (by decide +kernel) ⟨Nat.le_of_ble_eq_true rfl, Nat.le_of_ble_eq_true rfl⟩) ⟨fun a U g mk q => ⟨q.1, q.2.1, va_K.moved (u := U) (U := U.calling g mk a) (Vm.Alike.refl U.vm) q.2.2⟩, va_recv hK hP (ci := 1) (q0 := 0) rfl rfl, fun U hU hW => ⟨rfl, by rw [hU]; exact hP, va_K.moved hW.alike hK⟩⟩ rfl rfl hl.1 rfl (lv_room (Nat.le_of_ble_eq_true rfl)) dX0_pick_28 ⟨Nat.le_of_ble_eq_true rfl, Nat.le_of_ble_eq_true rfl⟩) (fun r_6 hr_6 => ?_)
  subst hr_6
  refine lv_istore (lv' := [(6, .int (nI (lp ln (h * 2 + w)))), (5, .int (nI (lp ln (g * 2 + w)))), (0, .ref h0), (1, .int (nI g)), (2, .int (nI h)), (3, .int (nI w)), (4, .int (nI k))]) hx hb dX0_pick_31 hl (by decide) rfl (fun ls hl => ?_)
  refine lv_aload_n hx hb dX0_pick_33 rfl (lv_at hl 2 rfl) ?_
  refine lv_iload hx hb dX0_pick_34 (lv_at hl 1 rfl) ?_
  refine lv_iload hx hb dX0_pick_36 (lv_at hl 0 rfl) ?_
  refine lv_iload hx hb dX0_pick_38 (lv_at hl 6 rfl) ?_
  refine rd_calli (va_runV (As := [.int (nI (lp ln (g * 2 + w))), .int (nI (lp ln (h * 2 + w))), .int (nI k)]) (rest := []) ⟨hx, hb, hml, hown, hts⟩ (c_X0_isRelated l D h0 hn hd hq cZ cD cI nb v ln go mv hln (lp ln (g * 2 + w)) (lp ln (h * 2 + w)) k (lp_lt hln (by omega)) (lp_lt hln (by omega)) (by omega)) (cwV 3 hts gX0_pick_X0_isRelated rfl rfl rfl (by decide +kernel) ⟨Nat.le_of_ble_eq_true rfl, Nat.le_of_ble_eq_true rfl⟩) ⟨fun a U g mk q => ⟨q.1, q.2.1, va_K.moved (u := U) (U := U.calling g mk a) (Vm.Alike.refl U.vm) q.2.2⟩, va_recv hK hP (ci := 1) (q0 := 0) rfl rfl, fun U hU hW => ⟨rfl, by rw [hU]; exact hP, va_K.moved hW.alike hK⟩⟩ rfl rfl hl.1 rfl (lv_room (Nat.le_of_ble_eq_true rfl)) dX0_pick_40 ⟨Nat.le_of_ble_eq_true rfl, Nat.le_of_ble_eq_true rfl⟩) (fun r_7 hr_7 => ?_)
  subst hr_7
  refine kb_eq (tgt := 48) hx hb dX0_pick_43 (by decide) (fun c_8 => ?_) (fun c_8 => ?_)
  · refine lv_aload_n hx hb dX0_pick_48 rfl (lv_at hl 2 rfl) ?_
    refine lv_iload hx hb dX0_pick_49 (lv_at hl 0 rfl) ?_
    refine lv_iload hx hb dX0_pick_51 (lv_at hl 1 rfl) ?_
    refine lv_iload hx hb dX0_pick_53 (lv_at hl 6 rfl) ?_
    refine rd_calli (va_runV (As := [.int (nI (lp ln (h * 2 + w))), .int (nI (lp ln (g * 2 + w))), .int (nI k)]) (rest := []) ⟨hx, hb, hml, hown, hts⟩ (c_X0_isRelated l D h0 hn hd hq cZ cD cI nb v ln go mv hln (lp ln (h * 2 + w)) (lp ln (g * 2 + w)) k (lp_lt hln (by omega)) (lp_lt hln (by omega)) (by omega)) (cwV 3 hts gX0_pick_X0_isRelated rfl rfl rfl (by decide +kernel) ⟨Nat.le_of_ble_eq_true rfl, Nat.le_of_ble_eq_true rfl⟩) ⟨fun a U g mk q => ⟨q.1, q.2.1, va_K.moved (u := U) (U := U.calling g mk a) (Vm.Alike.refl U.vm) q.2.2⟩, va_recv hK hP (ci := 1) (q0 := 0) rfl rfl, fun U hU hW => ⟨rfl, by rw [hU]; exact hP, va_K.moved hW.alike hK⟩⟩ rfl rfl hl.1 rfl (lv_room (Nat.le_of_ble_eq_true rfl)) dX0_pick_55 ⟨Nat.le_of_ble_eq_true rfl, Nat.le_of_ble_eq_true rfl⟩) (fun r_9 hr_9 => ?_)
    subst hr_9
    refine kb_eq (tgt := 65) hx hb dX0_pick_58 (by decide) (fun c_10 => ?_) (fun c_10 => ?_)
    · refine lv_iconst (v := (-1)) hx hb dX0_pick_65 (by decide) ?_
      refine vx_ret ?_
      refine W.widen (k := 4) (n := 24) (Nat.le_of_ble_eq_true rfl) (Nat.le_of_ble_eq_true rfl) ?_
      exact W.iret (v := (-1)) hx hb hr (fun t9 ht9 hW9 => ⟨⟨_, rfl, by first | rfl | (simp [c_8, c_10]; done) | (simp only [Nat.add_zero] at c_8 c_10; simp [c_8, c_10]; done)⟩, ht9⟩) (fun q hq => absurd hq List.not_mem_nil) dX0_pick_66
    · refine lv_iload_n hx hb dX0_pick_61 rfl (lv_at hl 4 rfl) ?_
      refine lv_goto (tgt := 66) hx hb dX0_pick_62 (by decide) ?_
      refine vx_ret ?_
      refine W.widen (k := 4) (n := 24) (Nat.le_of_ble_eq_true rfl) (Nat.le_of_ble_eq_true rfl) ?_
      exact W.iret (v := nI h) hx hb hr (fun t9 ht9 hW9 => ⟨⟨_, rfl, by first | rfl | (simp [c_8, c_10]; done) | (simp only [Nat.add_zero] at c_8 c_10; simp [c_8, c_10]; done)⟩, ht9⟩) (fun q hq => absurd hq List.not_mem_nil) dX0_pick_66
  · refine lv_iload_n hx hb dX0_pick_46 rfl (lv_at hl 3 rfl) ?_
    refine vx_ret ?_
    refine W.widen (k := 4) (n := 24) (Nat.le_of_ble_eq_true rfl) (Nat.le_of_ble_eq_true rfl) ?_
    exact W.iret (v := nI g) hx hb hr (fun t9 ht9 hW9 => ⟨⟨_, rfl, by first | rfl | (simp [c_8]; done) | (simp only [Nat.add_zero] at c_8; simp [c_8]; done)⟩, ht9⟩) (fun q hq => absurd hq List.not_mem_nil) dX0_pick_47
theorem c_X0_pick (l : Launch) (D : va_G) (h0 hn hd hq : Nat) (cZ cD cI : ClassId) (nb : Nat → Bool) (v : Nat → UInt64) (ln : Nat → Nat) (go : Bool) (mv : Int32) (hln : ∀ j, ln j ≤ 12) (hl0 : l.stackTraces = false) (g : Nat) (h : Nat) (w : Nat) (k : Nat) (hg : g < 6) (hh : h < 6) (hw : w < 2) (hk : k < 6) : Met l yX0_pick wsX0_pick ({ frames := 7, cells := 4, slots := 24, locals := 102 }) (va_Pc [.ref h0, .int (nI g), .int (nI h), .int (nI w), .int (nI k)] (fun U => xOK U ∧ va_P D vwCl (WB h0 hn hd hq cZ cD cI nb v ln go mv) U.heap ∧ va_K D vwCl (TY cZ cD cI) U)) (rd_Qi (fun r => r = (if rp nb v (lp ln (g * 2 + w)) (lp ln (h * 2 + w)) k = true then nI g else if rp nb v (lp ln (h * 2 + w)) (lp ln (g * 2 + w)) k = true then nI h else (-1)))) 4 24 (fun _ => False) := met_of_ok (c_X0_pick_x l D h0 hn hd hq cZ cD cI nb v ln go mv hln hl0 g h w k hg hh hw hk)
set_option maxHeartbeats 4000000 in
set_option maxRecDepth 100000 in
theorem c_X0_stand_x (l : Launch) (D : va_G) (h0 hn hd hq : Nat) (cZ cD cI : ClassId) (nb : Nat → Bool) (v : Nat → UInt64) (ln : Nat → Nat) (go : Bool) (mv : Int32) (hln : ∀ j, ln j ≤ 12) (hl0 : l.stackTraces = false) (g : Nat) (hg : g < 6) : vx_Met l yX0_stand wsX0_stand ({ frames := 7, cells := 1, slots := 6, locals := 102 }) (va_Pc [.ref h0, .int (nI g)] (fun U => xOK U ∧ va_P D vwCl (WB h0 hn hd hq cZ cD cI nb v ln go mv) U.heap ∧ va_K D vwCl (TY cZ cD cI) U)) (rd_Qi (fun r => r = nI (sL nb v ln g + sW nb v ln g))) (rd_X (fun E => False)) 1 6 (fun _ => False) := by
  refine vx_ofW (cc := cX0_stand) (maxL := 2) (ret := some .int) (by decide) rfl ?_
  intro p e s m args below meth c s₁ B hml hno hv
  obtain ⟨rfl, hX, hP, hK⟩ := hv
  have hx := B.exec
  have hb := B.bytes
  have hr := B.returns
  have hts := atoms_spec (ws := wsX0_stand) B.pre
  have hown : s.vm.findClass RX0 = some m.cls := findClass_of_methodNamed B.named
  have hlocks := B.notSynchronized
  have hl := lv_entry ([.ref h0, .int (nI g)]) (n := 2) (Nat.le_of_ble_eq_true rfl)
  rw [lg_entry_eq]
  generalize (lg_sl ([.ref h0, .int (nI g)]) ++ List.replicate (2 - (lg_sl ([.ref h0, .int (nI g)])).length) Slot.unset).toArray = ls at hl ⊢
  have hl : lv_has ls 2 [(0, .ref h0), (1, .int (nI g))] := hl
  refine lv_iload_n hx hb dX0_stand_0 rfl (lv_at hl 1 rfl) ?_
  refine kx_callv (vx_runS (As := [.int (nI g)]) (rest := []) ⟨hx, hb, hml, hown, hts⟩ (c_X0_needGauge l hl0 (nI g) ) (va_cwS 1 hts gX0_stand_X0_needGauge rfl rfl rfl (by decide +kernel) ⟨Nat.le_of_ble_eq_true rfl, Nat.le_of_ble_eq_true rfl⟩) ⟨fun a U g mk q => ⟨q.1, xOK_call q.2 g mk a⟩, fun U hU hW => ⟨rfl, xOK_at hX hU hW⟩⟩ rfl rfl hl.1 rfl (lv_room (Nat.le_of_ble_eq_true rfl)) dX0_stand_1 ⟨Nat.le_of_ble_eq_true rfl, Nat.le_of_ble_eq_true rfl⟩) hno hlocks (fun E hE => (hE.2 ⟨g, by omega, rfl⟩).elim) (Nat.le_of_ble_eq_true rfl) (Nat.le_of_ble_eq_true rfl) (fun h_1 => ?_)
  refine lv_aload_n hx hb dX0_stand_4 rfl (lv_at hl 0 rfl) ?_
  refine lv_iload_n hx hb dX0_stand_5 rfl (lv_at hl 1 rfl) ?_
  refine rd_calli (va_runV (As := [.int (nI g)]) (rest := []) ⟨hx, hb, hml, hown, hts⟩ (c_X0_standOfLevel l D h0 hn hd hq cZ cD cI nb v ln go mv hln g (by omega)) (cwV 1 hts gX0_stand_X0_standOfLevel rfl rfl rfl (by decide +kernel) ⟨Nat.le_of_ble_eq_true rfl, Nat.le_of_ble_eq_true rfl⟩) ⟨fun a U g mk q => ⟨q.1, q.2.1, va_K.moved (u := U) (U := U.calling g mk a) (Vm.Alike.refl U.vm) q.2.2⟩, va_recv hK hP (ci := 1) (q0 := 0) rfl rfl, fun U hU hW => ⟨rfl, by rw [hU]; exact hP, va_K.moved hW.alike hK⟩⟩ rfl rfl hl.1 rfl (lv_room (Nat.le_of_ble_eq_true rfl)) dX0_stand_6 ⟨Nat.le_of_ble_eq_true rfl, Nat.le_of_ble_eq_true rfl⟩) (fun r_2 hr_2 => ?_)
  subst hr_2
  refine lv_aload_n hx hb dX0_stand_9 rfl (lv_at hl 0 rfl) ?_
  refine lv_iload_n hx hb dX0_stand_10 rfl (lv_at hl 1 rfl) ?_
  refine rd_calli (va_runV (As := [.int (nI g)]) (rest := [.int (nI (sL nb v ln g))]) ⟨hx, hb, hml, hown, hts⟩ (c_X0_standOfWind l D h0 hn hd hq cZ cD cI nb v ln go mv hln g (by omega)) (cwV 1 hts gX0_stand_X0_standOfWind rfl rfl rfl (by decide +kernel) ⟨Nat.le_of_ble_eq_true rfl, Nat.le_of_ble_eq_true rfl⟩) ⟨fun a U g mk q => ⟨q.1, q.2.1, va_K.moved (u := U) (U := U.calling g mk a) (Vm.Alike.refl U.vm) q.2.2⟩, va_recv hK hP (ci := 1) (q0 := 0) rfl rfl, fun U hU hW => ⟨rfl, by rw [hU]; exact hP, va_K.moved hW.alike hK⟩⟩ rfl rfl hl.1 rfl (lv_room (Nat.le_of_ble_eq_true rfl)) dX0_stand_11 ⟨Nat.le_of_ble_eq_true rfl, Nat.le_of_ble_eq_true rfl⟩) (fun r_3 hr_3 => ?_)
  subst hr_3
  refine kn_iadd hx hb dX0_stand_14 ?_
  refine vx_ret ?_
  refine W.widen (k := 1) (n := 6) (Nat.le_of_ble_eq_true rfl) (Nat.le_of_ble_eq_true rfl) ?_
  exact W.iret (v := nI ((sL nb v ln g) + (sW nb v ln g))) hx hb hr (fun t9 ht9 hW9 => ⟨⟨_, rfl, rfl⟩, ht9⟩) (fun q hq => absurd hq List.not_mem_nil) dX0_stand_15
theorem c_X0_stand (l : Launch) (D : va_G) (h0 hn hd hq : Nat) (cZ cD cI : ClassId) (nb : Nat → Bool) (v : Nat → UInt64) (ln : Nat → Nat) (go : Bool) (mv : Int32) (hln : ∀ j, ln j ≤ 12) (hl0 : l.stackTraces = false) (g : Nat) (hg : g < 6) : Met l yX0_stand wsX0_stand ({ frames := 7, cells := 1, slots := 6, locals := 102 }) (va_Pc [.ref h0, .int (nI g)] (fun U => xOK U ∧ va_P D vwCl (WB h0 hn hd hq cZ cD cI nb v ln go mv) U.heap ∧ va_K D vwCl (TY cZ cD cI) U)) (rd_Qi (fun r => r = nI (sL nb v ln g + sW nb v ln g))) 1 6 (fun _ => False) := met_of_ok (c_X0_stand_x l D h0 hn hd hq cZ cD cI nb v ln go mv hln hl0 g hg)
set_option maxHeartbeats 4000000 in
set_option maxRecDepth 100000 in
theorem c_X0_order_x (l : Launch) (D : va_G) (h0 hn hd hq : Nat) (cZ cD cI : ClassId) (nb : Nat → Bool) (v : Nat → UInt64) (ln : Nat → Nat) (go : Bool) (mv : Int32) (hln : ∀ j, ln j ≤ 12) (hl0 : l.stackTraces = false) (k : Nat) (hk : k < 6) : vx_Met l yX0_order wsX0_order ({ frames := 4, cells := 0, slots := 0, locals := 96 }) (va_Pc [.ref h0, .int (nI k)] (fun U => xOK U ∧ va_P D vwCl (WB h0 hn hd hq cZ cD cI nb v ln go mv) U.heap ∧ va_K D vwCl (TY cZ cD cI) U)) (rd_Qi (fun r => r = fo (ga nb v ln) k 6)) (rd_X (fun E => False)) 0 0 (fun _ => False) := by
  refine vx_ofW (cc := cX0_order) (maxL := 4) (ret := some .int) (by decide) rfl ?_
  intro p e s m args below meth c s₁ B hml hno hv
  obtain ⟨rfl, hX, hP, hK⟩ := hv
  have hx := B.exec
  have hb := B.bytes
  have hr := B.returns
  have hts := atoms_spec (ws := wsX0_order) B.pre
  have hown : s.vm.findClass RX0 = some m.cls := findClass_of_methodNamed B.named
  have hlocks := B.notSynchronized
  have hl := lv_entry ([.ref h0, .int (nI k)]) (n := 4) (Nat.le_of_ble_eq_true rfl)
  rw [lg_entry_eq]
  generalize (lg_sl ([.ref h0, .int (nI k)]) ++ List.replicate (4 - (lg_sl ([.ref h0, .int (nI k)])).length) Slot.unset).toArray = ls at hl ⊢
  have hl : lv_has ls 4 [(0, .ref h0), (1, .int (nI k))] := hl
  refine lv_iload_n hx hb dX0_order_0 rfl (lv_at hl 1 rfl) ?_
  refine kn_iflt (tgt := 10) hx hb (by omega) dX0_order_1 (by decide) ?_
  refine lv_iload_n hx hb dX0_order_4 rfl (lv_at hl 1 rfl) ?_
  refine lv_bipush (v := nI 6) hx hb dX0_order_5 (by decide) ?_
  refine kn_icmp_lt (tgt := 20) hx hb (by omega) (by decide) dX0_order_7 (by decide) (fun c_x => ?_) (fun h => absurd h (by omega))
  refine lv_iconst (v := (-1)) hx hb dX0_order_20 (by decide) ?_
  refine lv_istore_n (lv' := [(2, .int ((-1))), (0, .ref h0), (1, .int (nI k))]) hx hb dX0_order_21 rfl hl (by decide) rfl (fun ls hl => ?_)
  refine lv_iconst (v := nI 0) hx hb dX0_order_22 (by decide) ?_
  refine lv_istore_n (lv' := [(3, .int (nI 0)), (2, .int ((-1))), (0, .ref h0), (1, .int (nI k))]) hx hb dX0_order_23 rfl hl (by decide) rfl (fun ls hl => ?_)
  refine (?_ : ∀ (k_ i : Nat) (ls : Array Slot), i + k_ = 6 → lv_has ls 4 [(0, .ref h0), (1, .int (nI k)), (2, .int (fo (ga nb v ln) k i)), (3, .int (nI i))] → W p l e _ s m _ below meth c _ _ _ _ _ (F0 m 24 ls [])) 6 0 ls (by omega) (lv_sub hl [2, 3, 1, 0] rfl)
  clear hl
  intro k_
  induction k_ with
  | zero =>
    intro i ls hi hl
    refine lv_iload_n hx hb dX0_order_24 rfl (lv_at hl 3 rfl) ?_
    refine lv_bipush (v := nI 6) hx hb dX0_order_25 (by decide) ?_
    refine kn_icmp_ge (tgt := 47) hx hb (by omega) (by decide) dX0_order_27 (by decide) (fun c_x => ?_) (fun h => absurd h (by omega))
    refine lv_iload_n hx hb dX0_order_47 rfl (lv_at hl 2 rfl) ?_
    refine vx_ret ?_
    refine W.widen (k := 0) (n := 0) (Nat.le_of_ble_eq_true rfl) (Nat.le_of_ble_eq_true rfl) ?_
    exact W.iret (v := fo (ga nb v ln) k i) hx hb hr (fun t9 ht9 hW9 => ⟨⟨_, rfl, by rw [show i = 6 by omega]⟩, ht9⟩) (fun q hq => absurd hq List.not_mem_nil) dX0_order_48
  | succ k_ ih =>
    intro i ls hi hl
    refine lv_iload_n hx hb dX0_order_24 rfl (lv_at hl 3 rfl) ?_
    refine lv_bipush (v := nI 6) hx hb dX0_order_25 (by decide) ?_
    refine kn_icmp_ge (tgt := 47) hx hb (by omega) (by decide) dX0_order_27 (by decide) (fun h => absurd h (by omega)) (fun c_x => ?_)
    refine lv_aload_n hx hb dX0_order_30 rfl (lv_at hl 0 rfl) ?_
    refine lv_iload_n hx hb dX0_order_31 rfl (lv_at hl 3 rfl) ?_
    refine rd_calli (va_runV (As := [.int (nI i)]) (rest := []) ⟨hx, hb, hml, hown, hts⟩ (c_X0_gaugesAheadOf l D h0 hn hd hq cZ cD cI nb v ln go mv hln i (by omega)) (cwV 1 hts gX0_order_X0_gaugesAheadOf rfl rfl rfl (by decide +kernel) ⟨Nat.le_of_ble_eq_true rfl, Nat.le_of_ble_eq_true rfl⟩) ⟨fun a U g mk q => ⟨q.1, q.2.1, va_K.moved (u := U) (U := U.calling g mk a) (Vm.Alike.refl U.vm) q.2.2⟩, va_recv hK hP (ci := 1) (q0 := 0) rfl rfl, fun U hU hW => ⟨rfl, by rw [hU]; exact hP, va_K.moved hW.alike hK⟩⟩ rfl rfl hl.1 rfl (lv_room (Nat.le_of_ble_eq_true rfl)) dX0_order_32 ⟨Nat.le_of_ble_eq_true rfl, Nat.le_of_ble_eq_true rfl⟩) (fun r_1 hr_1 => ?_)
    subst hr_1
    refine lv_iload_n hx hb dX0_order_35 rfl (lv_at hl 1 rfl) ?_
    refine kn_icmp_ne (tgt := 41) hx hb (by have := cn_le (fun j => ahd nb v ln j i) 6; unfold ga; omega) (by omega) dX0_order_36 (by decide) (fun c_2 => ?_) (fun c_2 => ?_)
    · refine lv_iinc (v := nI (i + 1)) (lv' := [(3, .int (nI (i + 1))), (0, .ref h0), (1, .int (nI k)), (2, .int (fo (ga nb v ln) k i))]) hx hb dX0_order_41 hl (k := 3) rfl (nI_add i 1) (by decide) rfl (fun ls hl => ?_)
      refine lv_goto (tgt := 24) hx hb dX0_order_44 (by decide) ?_
      have e_1 : fo (ga nb v ln) k (i + 1) = fo (ga nb v ln) k i := by simp [fo, c_2]
      exact ih (i + 1) ls (by omega) (by rw [e_1]; exact lv_sub hl [1, 2, 3, 0] rfl)
    · refine lv_iload_n hx hb dX0_order_39 rfl (lv_at hl 3 rfl) ?_
      refine lv_istore_n (lv' := [(2, .int (nI i)), (0, .ref h0), (1, .int (nI k)), (3, .int (nI i))]) hx hb dX0_order_40 rfl hl (by decide) rfl (fun ls hl => ?_)
      refine lv_iinc (v := nI (i + 1)) (lv' := [(3, .int (nI (i + 1))), (2, .int (nI i)), (0, .ref h0), (1, .int (nI k))]) hx hb dX0_order_41 hl (k := 3) rfl (nI_add i 1) (by decide) rfl (fun ls hl => ?_)
      refine lv_goto (tgt := 24) hx hb dX0_order_44 (by decide) ?_
      have e_1 : fo (ga nb v ln) k (i + 1) = nI i := by simp [fo, c_2]
      exact ih (i + 1) ls (by omega) (by rw [e_1]; exact lv_sub hl [2, 3, 1, 0] rfl)
theorem c_X0_order (l : Launch) (D : va_G) (h0 hn hd hq : Nat) (cZ cD cI : ClassId) (nb : Nat → Bool) (v : Nat → UInt64) (ln : Nat → Nat) (go : Bool) (mv : Int32) (hln : ∀ j, ln j ≤ 12) (hl0 : l.stackTraces = false) (k : Nat) (hk : k < 6) : Met l yX0_order wsX0_order ({ frames := 4, cells := 0, slots := 0, locals := 96 }) (va_Pc [.ref h0, .int (nI k)] (fun U => xOK U ∧ va_P D vwCl (WB h0 hn hd hq cZ cD cI nb v ln go mv) U.heap ∧ va_K D vwCl (TY cZ cD cI) U)) (rd_Qi (fun r => r = fo (ga nb v ln) k 6)) 0 0 (fun _ => False) := met_of_ok (c_X0_order_x l D h0 hn hd hq cZ cD cI nb v ln go mv hln hl0 k hk)
set_option maxHeartbeats 4000000 in
set_option maxRecDepth 100000 in
theorem c_X0_size_x (l : Launch) (D : va_G) (h0 hn hd hq : Nat) (cZ cD cI : ClassId) (nb : Nat → Bool) (v : Nat → UInt64) (ln : Nat → Nat) (go : Bool) (mv : Int32) (hln : ∀ j, ln j ≤ 12) (hl0 : l.stackTraces = false) (g : Nat) (w : Nat) (hg : g < 6) (hw : w < 2) : vx_Met l yX0_size wsX0_size ({ frames := 7, cells := 2, slots := 12, locals := 102 }) (va_Pc [.ref h0, .int (nI g), .int (nI w)] (fun U => xOK U ∧ va_P D vwCl (WB h0 hn hd hq cZ cD cI nb v ln go mv) U.heap ∧ va_K D vwCl (TY cZ cD cI) U)) (rd_Qi (fun r => r = nI (ln (g * 2 + w)))) (rd_X (fun E => False)) 2 12 (fun _ => False) := by
  refine vx_ofW (cc := cX0_size) (maxL := 3) (ret := some .int) (by decide) rfl ?_
  intro p e s m args below meth c s₁ B hml hno hv
  obtain ⟨rfl, hX, hP, hK⟩ := hv
  have hx := B.exec
  have hb := B.bytes
  have hr := B.returns
  have hts := atoms_spec (ws := wsX0_size) B.pre
  have hown : s.vm.findClass RX0 = some m.cls := findClass_of_methodNamed B.named
  have hlocks := B.notSynchronized
  have hl := lv_entry ([.ref h0, .int (nI g), .int (nI w)]) (n := 3) (Nat.le_of_ble_eq_true rfl)
  rw [lg_entry_eq]
  generalize (lg_sl ([.ref h0, .int (nI g), .int (nI w)]) ++ List.replicate (3 - (lg_sl ([.ref h0, .int (nI g), .int (nI w)])).length) Slot.unset).toArray = ls at hl ⊢
  have hl : lv_has ls 3 [(0, .ref h0), (1, .int (nI g)), (2, .int (nI w))] := hl
  have hinRX0 : ∀ w ∈ wsX00, w ∈ wsX0_size := by decide +kernel
  have hf_17 := hts (.fieldLink RX0 17 "HarbourBoard" "lengths" "[I") (by decide +kernel)
  refine lv_iload_n hx hb dX0_size_0 rfl (lv_at hl 1 rfl) ?_
  refine kx_callv (vx_runS (As := [.int (nI g)]) (rest := []) ⟨hx, hb, hml, hown, hts⟩ (c_X0_needGauge l hl0 (nI g) ) (va_cwS 1 hts gX0_size_X0_needGauge rfl rfl rfl (by decide +kernel) ⟨Nat.le_of_ble_eq_true rfl, Nat.le_of_ble_eq_true rfl⟩) ⟨fun a U g mk q => ⟨q.1, xOK_call q.2 g mk a⟩, fun U hU hW => ⟨rfl, xOK_at hX hU hW⟩⟩ rfl rfl hl.1 rfl (lv_room (Nat.le_of_ble_eq_true rfl)) dX0_size_1 ⟨Nat.le_of_ble_eq_true rfl, Nat.le_of_ble_eq_true rfl⟩) hno hlocks (fun E hE => (hE.2 ⟨g, by omega, rfl⟩).elim) (Nat.le_of_ble_eq_true rfl) (Nat.le_of_ble_eq_true rfl) (fun h_1 => ?_)
  refine lv_iload_n hx hb dX0_size_4 rfl (lv_at hl 2 rfl) ?_
  refine kx_callv (vx_runS (As := [.int (nI w)]) (rest := []) ⟨hx, hb, hml, hown, hts⟩ (c_X0_needWhat l hl0 (nI w) ) (va_cwS 1 hts gX0_size_X0_needWhat rfl rfl rfl (by decide +kernel) ⟨Nat.le_of_ble_eq_true rfl, Nat.le_of_ble_eq_true rfl⟩) ⟨fun a U g mk q => ⟨q.1, xOK_call q.2 g mk a⟩, fun U hU hW => ⟨rfl, xOK_at hX hU hW⟩⟩ rfl rfl hl.1 rfl (lv_room (Nat.le_of_ble_eq_true rfl)) dX0_size_5 ⟨Nat.le_of_ble_eq_true rfl, Nat.le_of_ble_eq_true rfl⟩) hno hlocks (fun E hE => (hE.2 ⟨w, by omega, rfl⟩).elim) (Nat.le_of_ble_eq_true rfl) (Nat.le_of_ble_eq_true rfl) (fun h_2 => ?_)
  refine lv_aload_n hx hb dX0_size_8 rfl (lv_at hl 0 rfl) ?_
  refine va_get (D := D) (ci := 1) (v := .ref hq) (C := RX0) (T := TX0) (N := 5) hx hb hts hinRX0 hown hK hP 0 rfl rfl 2 (by decide) hf_17 (fun _ h9 => h9) rfl dX0_size_9 ?_
  refine lv_iload_n hx hb dX0_size_12 rfl (lv_at hl 1 rfl) ?_
  refine lv_iload_n hx hb dX0_size_13 rfl (lv_at hl 2 rfl) ?_
  refine rd_calli (va_runS (As := [.int (nI g), .int (nI w)]) (rest := [.ref hq]) ⟨hx, hb, hml, hown, hts⟩ (c_X0_stripOf l g w ) (va_cwS 2 hts gX0_size_X0_stripOf rfl rfl rfl (by decide +kernel) ⟨Nat.le_of_ble_eq_true rfl, Nat.le_of_ble_eq_true rfl⟩) ⟨fun a U g mk q => q, fun U hU hW => ⟨rfl, trivial⟩⟩ rfl rfl hl.1 rfl (lv_room (Nat.le_of_ble_eq_true rfl)) dX0_size_14 ⟨Nat.le_of_ble_eq_true rfl, Nat.le_of_ble_eq_true rfl⟩) (fun r_3 hr_3 => ?_)
  subst hr_3
  refine kn_iald hx hb hK hP 3 2 rfl rfl (by omega) (by decide) dX0_size_17 ?_
  refine vx_ret ?_
  refine W.widen (k := 2) (n := 12) (Nat.le_of_ble_eq_true rfl) (Nat.le_of_ble_eq_true rfl) ?_
  exact W.iret (v := nI (ln (g * 2 + w))) hx hb hr (fun t9 ht9 hW9 => ⟨⟨_, rfl, rfl⟩, ht9⟩) (fun q hq => absurd hq List.not_mem_nil) dX0_size_18
theorem c_X0_size (l : Launch) (D : va_G) (h0 hn hd hq : Nat) (cZ cD cI : ClassId) (nb : Nat → Bool) (v : Nat → UInt64) (ln : Nat → Nat) (go : Bool) (mv : Int32) (hln : ∀ j, ln j ≤ 12) (hl0 : l.stackTraces = false) (g : Nat) (w : Nat) (hg : g < 6) (hw : w < 2) : Met l yX0_size wsX0_size ({ frames := 7, cells := 2, slots := 12, locals := 102 }) (va_Pc [.ref h0, .int (nI g), .int (nI w)] (fun U => xOK U ∧ va_P D vwCl (WB h0 hn hd hq cZ cD cI nb v ln go mv) U.heap ∧ va_K D vwCl (TY cZ cD cI) U)) (rd_Qi (fun r => r = nI (ln (g * 2 + w)))) 2 12 (fun _ => False) := met_of_ok (c_X0_size_x l D h0 hn hd hq cZ cD cI nb v ln go mv hln hl0 g w hg hw)
set_option maxHeartbeats 4000000 in
set_option maxRecDepth 100000 in
theorem c_X0_same_x (l : Launch) (D : va_G) (h0 hn hd hq : Nat) (cZ cD cI : ClassId) (nb : Nat → Bool) (v : Nat → UInt64) (ln : Nat → Nat) (go : Bool) (mv : Int32) (hln : ∀ j, ln j ≤ 12) (hl0 : l.stackTraces = false) (g : Nat) (h : Nat) (hg : g < 6) (hh : h < 6) : vx_Met l yX0_same wsX0_same ({ frames := 7, cells := 2, slots := 12, locals := 102 }) (va_Pc [.ref h0, .int (nI g), .int (nI h)] (fun U => xOK U ∧ va_P D vwCl (WB h0 hn hd hq cZ cD cI nb v ln go mv) U.heap ∧ va_K D vwCl (TY cZ cD cI) U)) (rd_Qi (fun r => r = nI (saC nb v ln g h))) (rd_X (fun E => False)) 2 12 (fun _ => False) := by
  refine vx_ofW (cc := cX0_same) (maxL := 7) (ret := some .int) (by decide) rfl ?_
  intro p e s m args below meth c s₁ B hml hno hv
  obtain ⟨rfl, hX, hP, hK⟩ := hv
  have hx := B.exec
  have hb := B.bytes
  have hr := B.returns
  have hts := atoms_spec (ws := wsX0_same) B.pre
  have hown : s.vm.findClass RX0 = some m.cls := findClass_of_methodNamed B.named
  have hlocks := B.notSynchronized
  have hl := lv_entry ([.ref h0, .int (nI g), .int (nI h)]) (n := 7) (Nat.le_of_ble_eq_true rfl)
  rw [lg_entry_eq]
  generalize (lg_sl ([.ref h0, .int (nI g), .int (nI h)]) ++ List.replicate (7 - (lg_sl ([.ref h0, .int (nI g), .int (nI h)])).length) Slot.unset).toArray = ls at hl ⊢
  have hl : lv_has ls 7 [(0, .ref h0), (1, .int (nI g)), (2, .int (nI h))] := hl
  have hinRX0 : ∀ w ∈ wsX00, w ∈ wsX0_same := by decide +kernel
  have hf_17 := hts (.fieldLink RX0 17 "HarbourBoard" "lengths" "[I") (by decide +kernel)
  have h1 := hln (g * 2 + 0)
  have h2 := hln (h * 2 + 0)
  refine lv_iload_n hx hb dX0_same_0 rfl (lv_at hl 1 rfl) ?_
  refine kx_callv (vx_runS (As := [.int (nI g)]) (rest := []) ⟨hx, hb, hml, hown, hts⟩ (c_X0_needGauge l hl0 (nI g) ) (va_cwS 1 hts gX0_same_X0_needGauge rfl rfl rfl (by decide +kernel) ⟨Nat.le_of_ble_eq_true rfl, Nat.le_of_ble_eq_true rfl⟩) ⟨fun a U g mk q => ⟨q.1, xOK_call q.2 g mk a⟩, fun U hU hW => ⟨rfl, xOK_at hX hU hW⟩⟩ rfl rfl hl.1 rfl (lv_room (Nat.le_of_ble_eq_true rfl)) dX0_same_1 ⟨Nat.le_of_ble_eq_true rfl, Nat.le_of_ble_eq_true rfl⟩) hno hlocks (fun E hE => (hE.2 ⟨g, by omega, rfl⟩).elim) (Nat.le_of_ble_eq_true rfl) (Nat.le_of_ble_eq_true rfl) (fun h_1 => ?_)
  refine lv_iload_n hx hb dX0_same_4 rfl (lv_at hl 2 rfl) ?_
  refine kx_callv (vx_runS (As := [.int (nI h)]) (rest := []) ⟨hx, hb, hml, hown, hts⟩ (c_X0_needGauge l hl0 (nI h) ) (va_cwS 1 hts gX0_same_X0_needGauge rfl rfl rfl (by decide +kernel) ⟨Nat.le_of_ble_eq_true rfl, Nat.le_of_ble_eq_true rfl⟩) ⟨fun a U g mk q => ⟨q.1, xOK_call q.2 g mk a⟩, fun U hU hW => ⟨rfl, xOK_at hX hU hW⟩⟩ rfl rfl hl.1 rfl (lv_room (Nat.le_of_ble_eq_true rfl)) dX0_same_5 ⟨Nat.le_of_ble_eq_true rfl, Nat.le_of_ble_eq_true rfl⟩) hno hlocks (fun E hE => (hE.2 ⟨h, by omega, rfl⟩).elim) (Nat.le_of_ble_eq_true rfl) (Nat.le_of_ble_eq_true rfl) (fun h_2 => ?_)
  refine lv_iload_n hx hb dX0_same_8 rfl (lv_at hl 1 rfl) ?_
  refine lv_iconst (v := nI 0) hx hb dX0_same_9 (by decide) ?_
  refine rd_calli (va_runS (As := [.int (nI g), .int (nI 0)]) (rest := []) ⟨hx, hb, hml, hown, hts⟩ (c_X0_stripOf l g 0 ) (va_cwS 2 hts gX0_same_X0_stripOf rfl rfl rfl (by decide +kernel) ⟨Nat.le_of_ble_eq_true rfl, Nat.le_of_ble_eq_true rfl⟩) ⟨fun a U g mk q => q, fun U hU hW => ⟨rfl, trivial⟩⟩ rfl rfl hl.1 rfl (lv_room (Nat.le_of_ble_eq_true rfl)) dX0_same_10 ⟨Nat.le_of_ble_eq_true rfl, Nat.le_of_ble_eq_true rfl⟩) (fun r_3 hr_3 => ?_)
  subst hr_3
  refine lv_istore_n (lv' := [(3, .int (nI (g * 2 + 0))), (0, .ref h0), (1, .int (nI g)), (2, .int (nI h))]) hx hb dX0_same_13 rfl hl (by decide) rfl (fun ls hl => ?_)
  refine lv_iload_n hx hb dX0_same_14 rfl (lv_at hl 3 rfl) ?_
  refine lv_iconst (v := nI 0) hx hb dX0_same_15 (by decide) ?_
  refine rd_calli (va_runS (As := [.int (nI h), .int (nI 0)]) (rest := []) ⟨hx, hb, hml, hown, hts⟩ (c_X0_stripOf l h 0 ) (va_cwS 2 hts gX0_same_X0_stripOf rfl rfl rfl (by decide +kernel) ⟨Nat.le_of_ble_eq_true rfl, Nat.le_of_ble_eq_true rfl⟩) ⟨fun a U g mk q => q, fun U hU hW => ⟨rfl, trivial⟩⟩ rfl rfl hl.1 rfl (lv_room (Nat.le_of_ble_eq_true rfl)) dX0_same_16 ⟨Nat.le_of_ble_eq_true rfl, Nat.le_of_ble_eq_true rfl⟩) (fun r_4 hr_4 => ?_)
  subst hr_4
  refine lv_istore (lv' := [(4, .int (nI (h * 2 + 0))), (3, .int (nI (g * 2 + 0))), (0, .ref h0), (1, .int (nI g)), (2, .int (nI h))]) hx hb dX0_same_19 hl (by decide) rfl (fun ls hl => ?_)
  refine lv_aload_n hx hb dX0_same_21 rfl (lv_at hl 2 rfl) ?_
  refine va_get (D := D) (ci := 1) (v := .ref hq) (C := RX0) (T := TX0) (N := 5) hx hb hts hinRX0 hown hK hP 0 rfl rfl 2 (by decide) hf_17 (fun _ h9 => h9) rfl dX0_same_22 ?_
  refine lv_iload_n hx hb dX0_same_25 rfl (lv_at hl 1 rfl) ?_
  refine kn_iald hx hb hK hP 3 2 rfl rfl (by omega) (by decide) dX0_same_26 ?_
  refine lv_aload_n hx hb dX0_same_27 rfl (lv_at hl 2 rfl) ?_
  refine va_get (D := D) (ci := 1) (v := .ref hq) (C := RX0) (T := TX0) (N := 5) hx hb hts hinRX0 hown hK hP 0 rfl rfl 2 (by decide) hf_17 (fun _ h9 => h9) rfl dX0_same_28 ?_
  refine lv_iload hx hb dX0_same_31 (lv_at hl 0 rfl) ?_
  refine kn_iald hx hb hK hP 3 2 rfl rfl (by omega) (by decide) dX0_same_33 ?_
  refine kn_icmp_eq (tgt := 39) hx hb (by omega) (by omega) dX0_same_34 (by decide) (fun c_5 => ?_) (fun c_5 => ?_)
  · refine lv_iconst (v := nI 2) hx hb dX0_same_39 (by decide) ?_
    refine lv_istore (lv' := [(5, .int (nI 2)), (4, .int (nI (h * 2 + 0))), (3, .int (nI (g * 2 + 0))), (0, .ref h0), (1, .int (nI g)), (2, .int (nI h))]) hx hb dX0_same_40 hl (by decide) rfl (fun ls hl => ?_)
    refine lv_iconst (v := nI 0) hx hb dX0_same_42 (by decide) ?_
    refine lv_istore (lv' := [(6, .int (nI 0)), (5, .int (nI 2)), (4, .int (nI (h * 2 + 0))), (3, .int (nI (g * 2 + 0))), (0, .ref h0), (1, .int (nI g)), (2, .int (nI h))]) hx hb dX0_same_43 hl (by decide) rfl (fun ls hl => ?_)
    refine (?_ : ∀ (k_ i : Nat) (ls : Array Slot), i + k_ = ln (g * 2 + 0) → lv_has ls 7 [(0, .ref h0), (1, .int (nI g)), (2, .int (nI h)), (3, .int (nI (g * 2 + 0))), (4, .int (nI (h * 2 + 0))), (5, .int (nI (sm nb v (g * 2 + 0) (h * 2 + 0) i))), (6, .int (nI i))] → W p l e _ s m _ below meth c _ _ _ _ _ (F0 m 45 ls [])) (ln (g * 2 + 0)) 0 ls (by omega) (lv_sub hl [4, 5, 6, 3, 2, 1, 0] rfl)
    clear hl
    intro k_
    induction k_ with
    | zero =>
      intro i ls hi hl
      refine lv_iload hx hb dX0_same_45 (lv_at hl 6 rfl) ?_
      refine lv_aload_n hx hb dX0_same_47 rfl (lv_at hl 0 rfl) ?_
      refine va_get (D := D) (ci := 1) (v := .ref hq) (C := RX0) (T := TX0) (N := 5) hx hb hts hinRX0 hown hK hP 0 rfl rfl 2 (by decide) hf_17 (fun _ h9 => h9) rfl dX0_same_48 ?_
      refine lv_iload_n hx hb dX0_same_51 rfl (lv_at hl 3 rfl) ?_
      refine kn_iald hx hb hK hP 3 2 rfl rfl (by omega) (by decide) dX0_same_52 ?_
      refine kn_icmp_ge (tgt := 86) hx hb (by omega) (by omega) dX0_same_53 (by decide) (fun c_x => ?_) (fun h => absurd h (by omega))
      refine lv_iload hx hb dX0_same_86 (lv_at hl 5 rfl) ?_
      refine vx_ret ?_
      refine W.widen (k := 2) (n := 12) (Nat.le_of_ble_eq_true rfl) (Nat.le_of_ble_eq_true rfl) ?_
      exact W.iret (v := nI (sm nb v (g * 2 + 0) (h * 2 + 0) i)) hx hb hr (fun t9 ht9 hW9 => ⟨⟨_, rfl, congrArg nI (by unfold saC; rw [if_pos c_5, show i = ln (g * 2 + 0) by omega])⟩, ht9⟩) (fun q hq => absurd hq List.not_mem_nil) dX0_same_88
    | succ k_ ih =>
      intro i ls hi hl
      refine lv_iload hx hb dX0_same_45 (lv_at hl 6 rfl) ?_
      refine lv_aload_n hx hb dX0_same_47 rfl (lv_at hl 0 rfl) ?_
      refine va_get (D := D) (ci := 1) (v := .ref hq) (C := RX0) (T := TX0) (N := 5) hx hb hts hinRX0 hown hK hP 0 rfl rfl 2 (by decide) hf_17 (fun _ h9 => h9) rfl dX0_same_48 ?_
      refine lv_iload_n hx hb dX0_same_51 rfl (lv_at hl 3 rfl) ?_
      refine kn_iald hx hb hK hP 3 2 rfl rfl (by omega) (by decide) dX0_same_52 ?_
      refine kn_icmp_ge (tgt := 86) hx hb (by omega) (by omega) dX0_same_53 (by decide) (fun h => absurd h (by omega)) (fun c_x => ?_)
      refine lv_iload hx hb dX0_same_56 (lv_at hl 5 rfl) ?_
      refine lv_aload_n hx hb dX0_same_58 rfl (lv_at hl 0 rfl) ?_
      refine lv_iload_n hx hb dX0_same_59 rfl (lv_at hl 3 rfl) ?_
      refine lv_iload hx hb dX0_same_60 (lv_at hl 6 rfl) ?_
      refine rd_calli (va_runS (As := [.int (nI (g * 2 + 0)), .int (nI i)]) (rest := [.ref h0, .int (nI (sm nb v (g * 2 + 0) (h * 2 + 0) i))]) ⟨hx, hb, hml, hown, hts⟩ (c_X0_stripPlace l (g * 2 + 0) i ) (va_cwS 2 hts gX0_same_X0_stripPlace rfl rfl rfl (by decide +kernel) ⟨Nat.le_of_ble_eq_true rfl, Nat.le_of_ble_eq_true rfl⟩) ⟨fun a U g mk q => q, fun U hU hW => ⟨rfl, trivial⟩⟩ rfl rfl hl.1 rfl (lv_room (Nat.le_of_ble_eq_true rfl)) dX0_same_62 ⟨Nat.le_of_ble_eq_true rfl, Nat.le_of_ble_eq_true rfl⟩) (fun r_6 hr_6 => ?_)
      subst hr_6
      refine lv_iload hx hb dX0_same_65 (lv_at hl 4 rfl) ?_
      refine lv_iload hx hb dX0_same_67 (lv_at hl 6 rfl) ?_
      refine rd_calli (va_runS (As := [.int (nI (h * 2 + 0)), .int (nI i)]) (rest := [.int (nI ((g * 2 + 0) * 12 + i)), .ref h0, .int (nI (sm nb v (g * 2 + 0) (h * 2 + 0) i))]) ⟨hx, hb, hml, hown, hts⟩ (c_X0_stripPlace l (h * 2 + 0) i ) (va_cwS 2 hts gX0_same_X0_stripPlace rfl rfl rfl (by decide +kernel) ⟨Nat.le_of_ble_eq_true rfl, Nat.le_of_ble_eq_true rfl⟩) ⟨fun a U g mk q => q, fun U hU hW => ⟨rfl, trivial⟩⟩ rfl rfl hl.1 rfl (lv_room (Nat.le_of_ble_eq_true rfl)) dX0_same_69 ⟨Nat.le_of_ble_eq_true rfl, Nat.le_of_ble_eq_true rfl⟩) (fun r_7 hr_7 => ?_)
      subst hr_7
      refine rd_calli (va_runV (As := [.int (nI ((g * 2 + 0) * 12 + i)), .int (nI ((h * 2 + 0) * 12 + i))]) (rest := [.int (nI (sm nb v (g * 2 + 0) (h * 2 + 0) i))]) ⟨hx, hb, hml, hown, hts⟩ (c_X0_likenessOf l D h0 hn hd hq cZ cD cI nb v ln go mv hln ((g * 2 + 0) * 12 + i) ((h * 2 + 0) * 12 + i) (by omega) (by omega)) (cwV 2 hts gX0_same_X0_likenessOf rfl rfl rfl (by decide +kernel) ⟨Nat.le_of_ble_eq_true rfl, Nat.le_of_ble_eq_true rfl⟩) ⟨fun a U g mk q => ⟨q.1, q.2.1, va_K.moved (u := U) (U := U.calling g mk a) (Vm.Alike.refl U.vm) q.2.2⟩, va_recv hK hP (ci := 1) (q0 := 0) rfl rfl, fun U hU hW => ⟨rfl, by rw [hU]; exact hP, va_K.moved hW.alike hK⟩⟩ rfl rfl hl.1 rfl (lv_room (Nat.le_of_ble_eq_true rfl)) dX0_same_72 ⟨Nat.le_of_ble_eq_true rfl, Nat.le_of_ble_eq_true rfl⟩) (fun r_8 hr_8 => ?_)
      subst hr_8
      refine va_mmin hx hb (by rw [hml]; exact hl.1.symm) hown (hts (.methodLink RX0 122 Lib.Math.min.name) (by decide +kernel)) (hts (.static Lib.Math.min.name) (by decide +kernel)) (hts (.initialized "java/lang/Math") (by decide +kernel)) (hts (.code Lib.Math.min.name Lib.Math.min.code 2 (some .int)) (by decide +kernel)) (Nat.le_of_ble_eq_true rfl) (Nat.le_of_ble_eq_true rfl) (Nat.le_of_ble_eq_true rfl) (Nat.le_of_ble_eq_true rfl) dX0_same_75 ?_
      refine kt_i (y := nI (Nat.min (sm nb v (g * 2 + 0) (h * 2 + 0) i) (lk nb v ((g * 2 + 0) * 12 + i) ((h * 2 + 0) * 12 + i)))) (nI_min (by have := sm_le nb v (g * 2 + 0) (h * 2 + 0) i; omega) (by have := @lk_le nb v ((g * 2 + 0) * 12 + i) ((h * 2 + 0) * 12 + i); omega)) ?_
      refine lv_istore (lv' := [(5, .int (nI (Nat.min (sm nb v (g * 2 + 0) (h * 2 + 0) i) (lk nb v ((g * 2 + 0) * 12 + i) ((h * 2 + 0) * 12 + i))))), (0, .ref h0), (1, .int (nI g)), (2, .int (nI h)), (3, .int (nI (g * 2 + 0))), (4, .int (nI (h * 2 + 0))), (6, .int (nI i))]) hx hb dX0_same_78 hl (by decide) rfl (fun ls hl => ?_)
      refine lv_iinc (v := nI (i + 1)) (lv' := [(6, .int (nI (i + 1))), (5, .int (nI (Nat.min (sm nb v (g * 2 + 0) (h * 2 + 0) i) (lk nb v ((g * 2 + 0) * 12 + i) ((h * 2 + 0) * 12 + i))))), (0, .ref h0), (1, .int (nI g)), (2, .int (nI h)), (3, .int (nI (g * 2 + 0))), (4, .int (nI (h * 2 + 0)))]) hx hb dX0_same_80 hl (k := 6) rfl (nI_add i 1) (by decide) rfl (fun ls hl => ?_)
      refine lv_goto (tgt := 45) hx hb dX0_same_83 (by decide) ?_
      exact ih (i + 1) ls (by omega) (lv_sub hl [2, 3, 4, 5, 6, 1, 0] rfl)
  · refine lv_iconst (v := nI 0) hx hb dX0_same_37 (by decide) ?_
    refine vx_ret ?_
    refine W.widen (k := 2) (n := 12) (Nat.le_of_ble_eq_true rfl) (Nat.le_of_ble_eq_true rfl) ?_
    exact W.iret (v := nI 0) hx hb hr (fun t9 ht9 hW9 => ⟨⟨_, rfl, congrArg nI (by unfold saC; rw [if_neg c_5])⟩, ht9⟩) (fun q hq => absurd hq List.not_mem_nil) dX0_same_38
theorem c_X0_same (l : Launch) (D : va_G) (h0 hn hd hq : Nat) (cZ cD cI : ClassId) (nb : Nat → Bool) (v : Nat → UInt64) (ln : Nat → Nat) (go : Bool) (mv : Int32) (hln : ∀ j, ln j ≤ 12) (hl0 : l.stackTraces = false) (g : Nat) (h : Nat) (hg : g < 6) (hh : h < 6) : Met l yX0_same wsX0_same ({ frames := 7, cells := 2, slots := 12, locals := 102 }) (va_Pc [.ref h0, .int (nI g), .int (nI h)] (fun U => xOK U ∧ va_P D vwCl (WB h0 hn hd hq cZ cD cI nb v ln go mv) U.heap ∧ va_K D vwCl (TY cZ cD cI) U)) (rd_Qi (fun r => r = nI (saC nb v ln g h))) 2 12 (fun _ => False) := met_of_ok (c_X0_same_x l D h0 hn hd hq cZ cD cI nb v ln go mv hln hl0 g h hg hh)
set_option maxHeartbeats 4000000 in
set_option maxRecDepth 100000 in
theorem c_X0_highest_x (l : Launch) (D : va_G) (h0 hn hd hq : Nat) (cZ cD cI : ClassId) (nb : Nat → Bool) (v : Nat → UInt64) (ln : Nat → Nat) (go : Bool) (mv : Int32) (hln : ∀ j, ln j ≤ 12) (hl0 : l.stackTraces = false) (g : Nat) (hg : g < 6) (hsome : bs nb v (g * 2 + 0) 2 (ln (g * 2 + 0)) ≠ 164) : vx_Met l yX0_highest wsX0_highest ({ frames := 7, cells := 1, slots := 6, locals := 102 }) (va_Pc [.ref h0, .int (nI g)] (fun U => xOK U ∧ va_P D vwCl (WB h0 hn hd hq cZ cD cI nb v ln go mv) U.heap ∧ va_K D vwCl (TY cZ cD cI) U)) (rd_Qd (fun r => r = v (bs nb v (g * 2 + 0) 2 (ln (g * 2 + 0))))) (rd_X (fun E => False)) 1 6 (fun _ => False) := by
  refine vx_ofW (cc := cX0_highest) (maxL := 2) (ret := some .double) (by decide) rfl ?_
  intro p e s m args below meth c s₁ B hml hno hv
  obtain ⟨rfl, hX, hP, hK⟩ := hv
  have hx := B.exec
  have hb := B.bytes
  have hr := B.returns
  have hts := atoms_spec (ws := wsX0_highest) B.pre
  have hown : s.vm.findClass RX0 = some m.cls := findClass_of_methodNamed B.named
  have hlocks := B.notSynchronized
  have hl := lv_entry ([.ref h0, .int (nI g)]) (n := 2) (Nat.le_of_ble_eq_true rfl)
  rw [lg_entry_eq]
  generalize (lg_sl ([.ref h0, .int (nI g)]) ++ List.replicate (2 - (lg_sl ([.ref h0, .int (nI g)])).length) Slot.unset).toArray = ls at hl ⊢
  have hl : lv_has ls 2 [(0, .ref h0), (1, .int (nI g))] := hl
  have hinRX0 : ∀ w ∈ wsX00, w ∈ wsX0_highest := by decide +kernel
  have hf_13 := hts (.fieldLink RX0 13 "HarbourBoard" "numbers" "[D") (by decide +kernel)
  refine lv_iload_n hx hb dX0_highest_0 rfl (lv_at hl 1 rfl) ?_
  refine kx_callv (vx_runS (As := [.int (nI g)]) (rest := []) ⟨hx, hb, hml, hown, hts⟩ (c_X0_needGauge l hl0 (nI g) ) (va_cwS 1 hts gX0_highest_X0_needGauge rfl rfl rfl (by decide +kernel) ⟨Nat.le_of_ble_eq_true rfl, Nat.le_of_ble_eq_true rfl⟩) ⟨fun a U g mk q => ⟨q.1, xOK_call q.2 g mk a⟩, fun U hU hW => ⟨rfl, xOK_at hX hU hW⟩⟩ rfl rfl hl.1 rfl (lv_room (Nat.le_of_ble_eq_true rfl)) dX0_highest_1 ⟨Nat.le_of_ble_eq_true rfl, Nat.le_of_ble_eq_true rfl⟩) hno hlocks (fun E hE => (hE.2 ⟨g, by omega, rfl⟩).elim) (Nat.le_of_ble_eq_true rfl) (Nat.le_of_ble_eq_true rfl) (fun h_1 => ?_)
  refine lv_aload_n hx hb dX0_highest_4 rfl (lv_at hl 0 rfl) ?_
  refine va_get (D := D) (ci := 1) (v := .ref hd) (C := RX0) (T := TX0) (N := 5) hx hb hts hinRX0 hown hK hP 0 rfl rfl 1 (by decide) hf_13 (fun _ h9 => h9) rfl dX0_highest_5 ?_
  refine lv_aload_n hx hb dX0_highest_8 rfl (lv_at hl 0 rfl) ?_
  refine lv_iload_n hx hb dX0_highest_9 rfl (lv_at hl 1 rfl) ?_
  refine lv_iconst (v := nI 0) hx hb dX0_highest_10 (by decide) ?_
  refine rd_calli (va_runS (As := [.int (nI g), .int (nI 0)]) (rest := [.ref h0, .ref hd]) ⟨hx, hb, hml, hown, hts⟩ (c_X0_stripOf l g 0 ) (va_cwS 2 hts gX0_highest_X0_stripOf rfl rfl rfl (by decide +kernel) ⟨Nat.le_of_ble_eq_true rfl, Nat.le_of_ble_eq_true rfl⟩) ⟨fun a U g mk q => q, fun U hU hW => ⟨rfl, trivial⟩⟩ rfl rfl hl.1 rfl (lv_room (Nat.le_of_ble_eq_true rfl)) dX0_highest_11 ⟨Nat.le_of_ble_eq_true rfl, Nat.le_of_ble_eq_true rfl⟩) (fun r_2 hr_2 => ?_)
  subst hr_2
  refine lv_iconst (v := nI 2) hx hb dX0_highest_14 (by decide) ?_
  refine rd_calli (va_runV (As := [.int (nI (g * 2 + 0)), .int (nI 2)]) (rest := [.ref hd]) ⟨hx, hb, hml, hown, hts⟩ (c_X0_extremePlace l D h0 hn hd hq cZ cD cI nb v ln go mv hln hl0 (g * 2 + 0) 2 (by omega) (by decide) hsome) (cwV 2 hts gX0_highest_X0_extremePlace rfl rfl rfl (by decide +kernel) ⟨Nat.le_of_ble_eq_true rfl, Nat.le_of_ble_eq_true rfl⟩) ⟨fun a U g mk q => ⟨q.1, xOK_call q.2.1 g mk a, q.2.2.1, va_K.moved (u := U) (U := U.calling g mk a) (Vm.Alike.refl U.vm) q.2.2.2⟩, va_recv hK hP (ci := 1) (q0 := 0) rfl rfl, fun U hU hW => ⟨rfl, xOK_at hX hU hW, by rw [hU]; exact hP, va_K.moved hW.alike hK⟩⟩ rfl rfl hl.1 rfl (lv_room (Nat.le_of_ble_eq_true rfl)) dX0_highest_15 ⟨Nat.le_of_ble_eq_true rfl, Nat.le_of_ble_eq_true rfl⟩) (fun r_3 hr_3 => ?_)
  subst hr_3
  refine kn_dald hx hb hK hP 2 1 rfl rfl (bs_lt (by omega) (hln _)) (by decide) dX0_highest_18 ?_
  refine vx_ret ?_
  refine W.widen (k := 1) (n := 6) (Nat.le_of_ble_eq_true rfl) (Nat.le_of_ble_eq_true rfl) ?_
  exact W.dret (v := v (bs nb v (g * 2 + 0) 2 (ln (g * 2 + 0)))) hx hb hr (fun t9 ht9 hW9 => ⟨⟨_, rfl, rfl⟩, ht9⟩) (fun q hq => absurd hq List.not_mem_nil) dX0_highest_19
theorem c_X0_highest (l : Launch) (D : va_G) (h0 hn hd hq : Nat) (cZ cD cI : ClassId) (nb : Nat → Bool) (v : Nat → UInt64) (ln : Nat → Nat) (go : Bool) (mv : Int32) (hln : ∀ j, ln j ≤ 12) (hl0 : l.stackTraces = false) (g : Nat) (hg : g < 6) (hsome : bs nb v (g * 2 + 0) 2 (ln (g * 2 + 0)) ≠ 164) : Met l yX0_highest wsX0_highest ({ frames := 7, cells := 1, slots := 6, locals := 102 }) (va_Pc [.ref h0, .int (nI g)] (fun U => xOK U ∧ va_P D vwCl (WB h0 hn hd hq cZ cD cI nb v ln go mv) U.heap ∧ va_K D vwCl (TY cZ cD cI) U)) (rd_Qd (fun r => r = v (bs nb v (g * 2 + 0) 2 (ln (g * 2 + 0))))) 1 6 (fun _ => False) := met_of_ok (c_X0_highest_x l D h0 hn hd hq cZ cD cI nb v ln go mv hln hl0 g hg hsome)
set_option maxHeartbeats 4000000 in
set_option maxRecDepth 100000 in
theorem c_X0_highest_none (l : Launch) (D : va_G) (h0 hn hd hq : Nat) (cZ cD cI : ClassId) (nb : Nat → Bool) (v : Nat → UInt64) (ln : Nat → Nat) (go : Bool) (mv : Int32) (hln : ∀ j, ln j ≤ 12) (hl0 : l.stackTraces = false) (g : Nat) (hg : g < 6) (hnone : bs nb v (g * 2 + 0) 2 (ln (g * 2 + 0)) = 164) : vx_Met l yX0_highest wsX0_highest ({ frames := 7, cells := 2, slots := 12, locals := 108 }) (va_Pc [.ref h0, .int (nI g)] (fun U => xOK U ∧ va_P D vwCl (WB h0 hn hd hq cZ cD cI nb v ln go mv) U.heap ∧ va_K D vwCl (TY cZ cD cI) U)) (fun _ _ _ _ => False) (rd_X (fun E => E = NSE)) 2 12 (fun _ => False) := by
  refine vx_ofW (cc := cX0_highest) (maxL := 2) (ret := some .double) (by decide) rfl ?_
  intro p e s m args below meth c s₁ B hml hno hv
  obtain ⟨rfl, hX, hP, hK⟩ := hv
  have hx := B.exec
  have hb := B.bytes
  have hr := B.returns
  have hts := atoms_spec (ws := wsX0_highest) B.pre
  have hown : s.vm.findClass RX0 = some m.cls := findClass_of_methodNamed B.named
  have hlocks := B.notSynchronized
  have hl := lv_entry ([.ref h0, .int (nI g)]) (n := 2) (Nat.le_of_ble_eq_true rfl)
  rw [lg_entry_eq]
  generalize (lg_sl ([.ref h0, .int (nI g)]) ++ List.replicate (2 - (lg_sl ([.ref h0, .int (nI g)])).length) Slot.unset).toArray = ls at hl ⊢
  have hl : lv_has ls 2 [(0, .ref h0), (1, .int (nI g))] := hl
  have hinRX0 : ∀ w ∈ wsX00, w ∈ wsX0_highest := by decide +kernel
  have hf_13 := hts (.fieldLink RX0 13 "HarbourBoard" "numbers" "[D") (by decide +kernel)
  refine lv_iload_n hx hb dX0_highest_0 rfl (lv_at hl 1 rfl) ?_
  refine kx_callv (vx_runS (As := [.int (nI g)]) (rest := []) ⟨hx, hb, hml, hown, hts⟩ (c_X0_needGauge l hl0 (nI g) ) (va_cwS 1 hts gX0_highest_X0_needGauge rfl rfl rfl (by decide +kernel) ⟨Nat.le_of_ble_eq_true rfl, Nat.le_of_ble_eq_true rfl⟩) ⟨fun a U g mk q => ⟨q.1, xOK_call q.2 g mk a⟩, fun U hU hW => ⟨rfl, xOK_at hX hU hW⟩⟩ rfl rfl hl.1 rfl (lv_room (Nat.le_of_ble_eq_true rfl)) dX0_highest_1 ⟨Nat.le_of_ble_eq_true rfl, Nat.le_of_ble_eq_true rfl⟩) hno hlocks (fun E hE => (hE.2 ⟨g, by omega, rfl⟩).elim) (Nat.le_of_ble_eq_true rfl) (Nat.le_of_ble_eq_true rfl) (fun h_1 => ?_)
  refine lv_aload_n hx hb dX0_highest_4 rfl (lv_at hl 0 rfl) ?_
  refine va_get (D := D) (ci := 1) (v := .ref hd) (C := RX0) (T := TX0) (N := 5) hx hb hts hinRX0 hown hK hP 0 rfl rfl 1 (by decide) hf_13 (fun _ h9 => h9) rfl dX0_highest_5 ?_
  refine lv_aload_n hx hb dX0_highest_8 rfl (lv_at hl 0 rfl) ?_
  refine lv_iload_n hx hb dX0_highest_9 rfl (lv_at hl 1 rfl) ?_
  refine lv_iconst (v := nI 0) hx hb dX0_highest_10 (by decide) ?_
  refine rd_calli (va_runS (As := [.int (nI g), .int (nI 0)]) (rest := [.ref h0, .ref hd]) ⟨hx, hb, hml, hown, hts⟩ (c_X0_stripOf l g 0 ) (va_cwS 2 hts gX0_highest_X0_stripOf rfl rfl rfl (by decide +kernel) ⟨Nat.le_of_ble_eq_true rfl, Nat.le_of_ble_eq_true rfl⟩) ⟨fun a U g mk q => q, fun U hU hW => ⟨rfl, trivial⟩⟩ rfl rfl hl.1 rfl (lv_room (Nat.le_of_ble_eq_true rfl)) dX0_highest_11 ⟨Nat.le_of_ble_eq_true rfl, Nat.le_of_ble_eq_true rfl⟩) (fun r_2 hr_2 => ?_)
  subst hr_2
  refine lv_iconst (v := nI 2) hx hb dX0_highest_14 (by decide) ?_
  exact kn_never (vx_runV (As := [.int (nI (g * 2 + 0)), .int (nI 2)]) (rest := [.ref hd]) ⟨hx, hb, hml, hown, hts⟩ (c_X0_extremePlace_none l D h0 hn hd hq cZ cD cI nb v ln go mv hln hl0 (g * 2 + 0) 2 (by omega) (by decide) hnone) (cwV 2 hts gX0_highest_X0_extremePlace rfl rfl rfl (by decide +kernel) ⟨Nat.le_of_ble_eq_true rfl, Nat.le_of_ble_eq_true rfl⟩) ⟨fun a U g mk q => ⟨q.1, xOK_call q.2.1 g mk a, q.2.2.1, va_K.moved (u := U) (U := U.calling g mk a) (Vm.Alike.refl U.vm) q.2.2.2⟩, va_recv hK hP (ci := 1) (q0 := 0) rfl rfl, fun U hU hW => ⟨rfl, xOK_at hX hU hW, by rw [hU]; exact hP, va_K.moved hW.alike hK⟩⟩ rfl rfl hl.1 rfl (lv_room (Nat.le_of_ble_eq_true rfl)) dX0_highest_15 ⟨Nat.le_of_ble_eq_true rfl, Nat.le_of_ble_eq_true rfl⟩) hno hlocks (fun E hE => hE) (Nat.le_of_ble_eq_true rfl) (Nat.le_of_ble_eq_true rfl)
set_option maxHeartbeats 4000000 in
set_option maxRecDepth 100000 in
theorem c_X0_calmest_x (l : Launch) (D : va_G) (h0 hn hd hq : Nat) (cZ cD cI : ClassId) (nb : Nat → Bool) (v : Nat → UInt64) (ln : Nat → Nat) (go : Bool) (mv : Int32) (hln : ∀ j, ln j ≤ 12) (hl0 : l.stackTraces = false) (g : Nat) (hg : g < 6) (hsome : bs nb v (g * 2 + 1) 0 (ln (g * 2 + 1)) ≠ 164) (hnn : vf_n32 (FP.d2f (v (bs nb v (g * 2 + 1) 0 (ln (g * 2 + 1)))))) : vx_Met l yX0_calmest wsX0_calmest ({ frames := 7, cells := 1, slots := 6, locals := 102 }) (va_Pc [.ref h0, .int (nI g)] (fun U => xOK U ∧ va_P D vwCl (WB h0 hn hd hq cZ cD cI nb v ln go mv) U.heap ∧ va_K D vwCl (TY cZ cD cI) U)) (rd_Qf (fun r => r = FP.d2f (v (bs nb v (g * 2 + 1) 0 (ln (g * 2 + 1)))))) (rd_X (fun E => False)) 1 6 (fun _ => False) := by
  refine vx_ofW (cc := cX0_calmest) (maxL := 2) (ret := some .float) (by decide) rfl ?_
  intro p e s m args below meth c s₁ B hml hno hv
  obtain ⟨rfl, hX, hP, hK⟩ := hv
  have hx := B.exec
  have hb := B.bytes
  have hr := B.returns
  have hts := atoms_spec (ws := wsX0_calmest) B.pre
  have hown : s.vm.findClass RX0 = some m.cls := findClass_of_methodNamed B.named
  have hlocks := B.notSynchronized
  have hl := lv_entry ([.ref h0, .int (nI g)]) (n := 2) (Nat.le_of_ble_eq_true rfl)
  rw [lg_entry_eq]
  generalize (lg_sl ([.ref h0, .int (nI g)]) ++ List.replicate (2 - (lg_sl ([.ref h0, .int (nI g)])).length) Slot.unset).toArray = ls at hl ⊢
  have hl : lv_has ls 2 [(0, .ref h0), (1, .int (nI g))] := hl
  have hinRX0 : ∀ w ∈ wsX00, w ∈ wsX0_calmest := by decide +kernel
  have hf_13 := hts (.fieldLink RX0 13 "HarbourBoard" "numbers" "[D") (by decide +kernel)
  refine lv_iload_n hx hb dX0_calmest_0 rfl (lv_at hl 1 rfl) ?_
  refine kx_callv (vx_runS (As := [.int (nI g)]) (rest := []) ⟨hx, hb, hml, hown, hts⟩ (c_X0_needGauge l hl0 (nI g) ) (va_cwS 1 hts gX0_calmest_X0_needGauge rfl rfl rfl (by decide +kernel) ⟨Nat.le_of_ble_eq_true rfl, Nat.le_of_ble_eq_true rfl⟩) ⟨fun a U g mk q => ⟨q.1, xOK_call q.2 g mk a⟩, fun U hU hW => ⟨rfl, xOK_at hX hU hW⟩⟩ rfl rfl hl.1 rfl (lv_room (Nat.le_of_ble_eq_true rfl)) dX0_calmest_1 ⟨Nat.le_of_ble_eq_true rfl, Nat.le_of_ble_eq_true rfl⟩) hno hlocks (fun E hE => (hE.2 ⟨g, by omega, rfl⟩).elim) (Nat.le_of_ble_eq_true rfl) (Nat.le_of_ble_eq_true rfl) (fun h_1 => ?_)
  refine lv_aload_n hx hb dX0_calmest_4 rfl (lv_at hl 0 rfl) ?_
  refine va_get (D := D) (ci := 1) (v := .ref hd) (C := RX0) (T := TX0) (N := 5) hx hb hts hinRX0 hown hK hP 0 rfl rfl 1 (by decide) hf_13 (fun _ h9 => h9) rfl dX0_calmest_5 ?_
  refine lv_aload_n hx hb dX0_calmest_8 rfl (lv_at hl 0 rfl) ?_
  refine lv_iload_n hx hb dX0_calmest_9 rfl (lv_at hl 1 rfl) ?_
  refine lv_iconst (v := nI 1) hx hb dX0_calmest_10 (by decide) ?_
  refine rd_calli (va_runS (As := [.int (nI g), .int (nI 1)]) (rest := [.ref h0, .ref hd]) ⟨hx, hb, hml, hown, hts⟩ (c_X0_stripOf l g 1 ) (va_cwS 2 hts gX0_calmest_X0_stripOf rfl rfl rfl (by decide +kernel) ⟨Nat.le_of_ble_eq_true rfl, Nat.le_of_ble_eq_true rfl⟩) ⟨fun a U g mk q => q, fun U hU hW => ⟨rfl, trivial⟩⟩ rfl rfl hl.1 rfl (lv_room (Nat.le_of_ble_eq_true rfl)) dX0_calmest_11 ⟨Nat.le_of_ble_eq_true rfl, Nat.le_of_ble_eq_true rfl⟩) (fun r_2 hr_2 => ?_)
  subst hr_2
  refine lv_iconst (v := nI 0) hx hb dX0_calmest_14 (by decide) ?_
  refine rd_calli (va_runV (As := [.int (nI (g * 2 + 1)), .int (nI 0)]) (rest := [.ref hd]) ⟨hx, hb, hml, hown, hts⟩ (c_X0_extremePlace l D h0 hn hd hq cZ cD cI nb v ln go mv hln hl0 (g * 2 + 1) 0 (by omega) (by decide) hsome) (cwV 2 hts gX0_calmest_X0_extremePlace rfl rfl rfl (by decide +kernel) ⟨Nat.le_of_ble_eq_true rfl, Nat.le_of_ble_eq_true rfl⟩) ⟨fun a U g mk q => ⟨q.1, xOK_call q.2.1 g mk a, q.2.2.1, va_K.moved (u := U) (U := U.calling g mk a) (Vm.Alike.refl U.vm) q.2.2.2⟩, va_recv hK hP (ci := 1) (q0 := 0) rfl rfl, fun U hU hW => ⟨rfl, xOK_at hX hU hW, by rw [hU]; exact hP, va_K.moved hW.alike hK⟩⟩ rfl rfl hl.1 rfl (lv_room (Nat.le_of_ble_eq_true rfl)) dX0_calmest_15 ⟨Nat.le_of_ble_eq_true rfl, Nat.le_of_ble_eq_true rfl⟩) (fun r_3 hr_3 => ?_)
  subst hr_3
  refine kn_dald hx hb hK hP 2 1 rfl rfl (bs_lt (by omega) (hln _)) (by decide) dX0_calmest_18 ?_
  refine lv_d2f hx hb dX0_calmest_19 hnn ?_
  refine vx_ret ?_
  refine W.widen (k := 1) (n := 6) (Nat.le_of_ble_eq_true rfl) (Nat.le_of_ble_eq_true rfl) ?_
  exact W.fret (v := FP.d2f (v (bs nb v (g * 2 + 1) 0 (ln (g * 2 + 1))))) hx hb hr (fun t9 ht9 hW9 => ⟨⟨_, rfl, rfl⟩, ht9⟩) (fun q hq => absurd hq List.not_mem_nil) dX0_calmest_20
theorem c_X0_calmest (l : Launch) (D : va_G) (h0 hn hd hq : Nat) (cZ cD cI : ClassId) (nb : Nat → Bool) (v : Nat → UInt64) (ln : Nat → Nat) (go : Bool) (mv : Int32) (hln : ∀ j, ln j ≤ 12) (hl0 : l.stackTraces = false) (g : Nat) (hg : g < 6) (hsome : bs nb v (g * 2 + 1) 0 (ln (g * 2 + 1)) ≠ 164) (hnn : vf_n32 (FP.d2f (v (bs nb v (g * 2 + 1) 0 (ln (g * 2 + 1)))))) : Met l yX0_calmest wsX0_calmest ({ frames := 7, cells := 1, slots := 6, locals := 102 }) (va_Pc [.ref h0, .int (nI g)] (fun U => xOK U ∧ va_P D vwCl (WB h0 hn hd hq cZ cD cI nb v ln go mv) U.heap ∧ va_K D vwCl (TY cZ cD cI) U)) (rd_Qf (fun r => r = FP.d2f (v (bs nb v (g * 2 + 1) 0 (ln (g * 2 + 1)))))) 1 6 (fun _ => False) := met_of_ok (c_X0_calmest_x l D h0 hn hd hq cZ cD cI nb v ln go mv hln hl0 g hg hsome hnn)
set_option maxHeartbeats 4000000 in
set_option maxRecDepth 100000 in
theorem c_X0_calmest_none (l : Launch) (D : va_G) (h0 hn hd hq : Nat) (cZ cD cI : ClassId) (nb : Nat → Bool) (v : Nat → UInt64) (ln : Nat → Nat) (go : Bool) (mv : Int32) (hln : ∀ j, ln j ≤ 12) (hl0 : l.stackTraces = false) (g : Nat) (hg : g < 6) (hnone : bs nb v (g * 2 + 1) 0 (ln (g * 2 + 1)) = 164) : vx_Met l yX0_calmest wsX0_calmest ({ frames := 7, cells := 2, slots := 12, locals := 108 }) (va_Pc [.ref h0, .int (nI g)] (fun U => xOK U ∧ va_P D vwCl (WB h0 hn hd hq cZ cD cI nb v ln go mv) U.heap ∧ va_K D vwCl (TY cZ cD cI) U)) (fun _ _ _ _ => False) (rd_X (fun E => E = NSE)) 2 12 (fun _ => False) := by
  refine vx_ofW (cc := cX0_calmest) (maxL := 2) (ret := some .float) (by decide) rfl ?_
  intro p e s m args below meth c s₁ B hml hno hv
  obtain ⟨rfl, hX, hP, hK⟩ := hv
  have hx := B.exec
  have hb := B.bytes
  have hr := B.returns
  have hts := atoms_spec (ws := wsX0_calmest) B.pre
  have hown : s.vm.findClass RX0 = some m.cls := findClass_of_methodNamed B.named
  have hlocks := B.notSynchronized
  have hl := lv_entry ([.ref h0, .int (nI g)]) (n := 2) (Nat.le_of_ble_eq_true rfl)
  rw [lg_entry_eq]
  generalize (lg_sl ([.ref h0, .int (nI g)]) ++ List.replicate (2 - (lg_sl ([.ref h0, .int (nI g)])).length) Slot.unset).toArray = ls at hl ⊢
  have hl : lv_has ls 2 [(0, .ref h0), (1, .int (nI g))] := hl
  have hinRX0 : ∀ w ∈ wsX00, w ∈ wsX0_calmest := by decide +kernel
  have hf_13 := hts (.fieldLink RX0 13 "HarbourBoard" "numbers" "[D") (by decide +kernel)
  refine lv_iload_n hx hb dX0_calmest_0 rfl (lv_at hl 1 rfl) ?_
  refine kx_callv (vx_runS (As := [.int (nI g)]) (rest := []) ⟨hx, hb, hml, hown, hts⟩ (c_X0_needGauge l hl0 (nI g) ) (va_cwS 1 hts gX0_calmest_X0_needGauge rfl rfl rfl (by decide +kernel) ⟨Nat.le_of_ble_eq_true rfl, Nat.le_of_ble_eq_true rfl⟩) ⟨fun a U g mk q => ⟨q.1, xOK_call q.2 g mk a⟩, fun U hU hW => ⟨rfl, xOK_at hX hU hW⟩⟩ rfl rfl hl.1 rfl (lv_room (Nat.le_of_ble_eq_true rfl)) dX0_calmest_1 ⟨Nat.le_of_ble_eq_true rfl, Nat.le_of_ble_eq_true rfl⟩) hno hlocks (fun E hE => (hE.2 ⟨g, by omega, rfl⟩).elim) (Nat.le_of_ble_eq_true rfl) (Nat.le_of_ble_eq_true rfl) (fun h_1 => ?_)
  refine lv_aload_n hx hb dX0_calmest_4 rfl (lv_at hl 0 rfl) ?_
  refine va_get (D := D) (ci := 1) (v := .ref hd) (C := RX0) (T := TX0) (N := 5) hx hb hts hinRX0 hown hK hP 0 rfl rfl 1 (by decide) hf_13 (fun _ h9 => h9) rfl dX0_calmest_5 ?_
  refine lv_aload_n hx hb dX0_calmest_8 rfl (lv_at hl 0 rfl) ?_
  refine lv_iload_n hx hb dX0_calmest_9 rfl (lv_at hl 1 rfl) ?_
  refine lv_iconst (v := nI 1) hx hb dX0_calmest_10 (by decide) ?_
  refine rd_calli (va_runS (As := [.int (nI g), .int (nI 1)]) (rest := [.ref h0, .ref hd]) ⟨hx, hb, hml, hown, hts⟩ (c_X0_stripOf l g 1 ) (va_cwS 2 hts gX0_calmest_X0_stripOf rfl rfl rfl (by decide +kernel) ⟨Nat.le_of_ble_eq_true rfl, Nat.le_of_ble_eq_true rfl⟩) ⟨fun a U g mk q => q, fun U hU hW => ⟨rfl, trivial⟩⟩ rfl rfl hl.1 rfl (lv_room (Nat.le_of_ble_eq_true rfl)) dX0_calmest_11 ⟨Nat.le_of_ble_eq_true rfl, Nat.le_of_ble_eq_true rfl⟩) (fun r_2 hr_2 => ?_)
  subst hr_2
  refine lv_iconst (v := nI 0) hx hb dX0_calmest_14 (by decide) ?_
  exact kn_never (vx_runV (As := [.int (nI (g * 2 + 1)), .int (nI 0)]) (rest := [.ref hd]) ⟨hx, hb, hml, hown, hts⟩ (c_X0_extremePlace_none l D h0 hn hd hq cZ cD cI nb v ln go mv hln hl0 (g * 2 + 1) 0 (by omega) (by decide) hnone) (cwV 2 hts gX0_calmest_X0_extremePlace rfl rfl rfl (by decide +kernel) ⟨Nat.le_of_ble_eq_true rfl, Nat.le_of_ble_eq_true rfl⟩) ⟨fun a U g mk q => ⟨q.1, xOK_call q.2.1 g mk a, q.2.2.1, va_K.moved (u := U) (U := U.calling g mk a) (Vm.Alike.refl U.vm) q.2.2.2⟩, va_recv hK hP (ci := 1) (q0 := 0) rfl rfl, fun U hU hW => ⟨rfl, xOK_at hX hU hW, by rw [hU]; exact hP, va_K.moved hW.alike hK⟩⟩ rfl rfl hl.1 rfl (lv_room (Nat.le_of_ble_eq_true rfl)) dX0_calmest_15 ⟨Nat.le_of_ble_eq_true rfl, Nat.le_of_ble_eq_true rfl⟩) hno hlocks (fun E hE => hE) (Nat.le_of_ble_eq_true rfl) (Nat.le_of_ble_eq_true rfl)
set_option maxHeartbeats 4000000 in
set_option maxRecDepth 100000 in
theorem c_X0_move_open_x (l : Launch) (D : va_G) (h0 hn hd hq : Nat) (cZ cD cI : ClassId) (nb : Nat → Bool) (v : Nat → UInt64) (ln : Nat → Nat) (go : Bool) (mv : Int32) (hln : ∀ j, ln j ≤ 12) (hl0 : l.stackTraces = false) (sz : Nat)  (hgo : go = false) (ho1 : rp nb v (lp ln (0 * 2 + 0)) (lp ln (1 * 2 + 0)) 2 = true) (ho2 : nb (144 + 1 * 3 + 2) = false ∨ rp nb v (lp ln (1 * 2 + 1)) (144 + 1 * 3 + 2) 0 = true) : vx_Met l yX0_move wsX0_move ({ frames := 7, cells := 1, slots := 6, locals := 103 }) (va_Pc [.ref h0, .int (b2i true)] (fun U => xOK U ∧ U.heap.size = sz ∧ va_P D vwCl (WB h0 hn hd hq cZ cD cI nb v ln go mv) U.heap ∧ va_K D vwCl (TY cZ cD cI) U ∧ va_D (fun _ => True) (WB h0 hn hd hq cZ cD cI nb v ln go mv))) (wr_Qi (fun r => r = (mv + 1)) (fun H => va_P D vwCl (WB h0 hn hd hq cZ cD cI nb v ln true (mv + 1)) H) (va_A (WB h0 hn hd hq cZ cD cI nb v ln go mv) sz)) (rd_X (fun E => False)) 1 6 (va_A (WB h0 hn hd hq cZ cD cI nb v ln go mv) sz) := by
  refine vx_ofW (cc := cX0_move) (maxL := 2) (ret := some .int) (by decide) rfl ?_
  intro p e s m args below meth c s₁ B hml hno hv
  obtain ⟨rfl, hX, hsz_, hP, hK, hD0⟩ := hv
  have hx := B.exec
  have hb := B.bytes
  have hr := B.returns
  have hts := atoms_spec (ws := wsX0_move) B.pre
  have hown : s.vm.findClass RX0 = some m.cls := findClass_of_methodNamed B.named
  have hlocks := B.notSynchronized
  subst hsz_
  have hD := hD0.self (sz := s.heap.size)
  generalize hAe : va_A (WB h0 hn hd hq cZ cD cI nb v ln go mv) s.heap.size = A at hD ⊢
  have hA : ∀ q : Nat, s.heap.size ≤ q → A q := fun q h => by rw [← hAe]; exact Or.inr h
  have hS : va_S A s.heap s.heap [] := va_S.rf
  have hl := lv_entry ([.ref h0, .int (b2i true)]) (n := 2) (Nat.le_of_ble_eq_true rfl)
  rw [lg_entry_eq]
  generalize (lg_sl ([.ref h0, .int (b2i true)]) ++ List.replicate (2 - (lg_sl ([.ref h0, .int (b2i true)])).length) Slot.unset).toArray = ls at hl ⊢
  have hl : lv_has ls 2 [(0, .ref h0), (1, .int (b2i true))] := hl
  have hinRX0 : ∀ w ∈ wsX00, w ∈ wsX0_move := by decide +kernel
  have hf_21 := hts (.fieldLink RX0 21 "HarbourBoard" "gateOpen" "Z") (by decide +kernel)
  have hf_25 := hts (.fieldLink RX0 25 "HarbourBoard" "moves" "I") (by decide +kernel)
  refine lv_iload_n hx hb dX0_move_0 rfl (lv_at hl 1 rfl) ?_
  refine lv_aload_n hx hb dX0_move_1 rfl (lv_at hl 0 rfl) ?_
  refine va_get (D := D) (ci := 1) (v := .int (b2i go)) (C := RX0) (T := TX0) (N := 5) hx hb hts hinRX0 hown hK hP 0 rfl rfl 3 (by decide) hf_21 (fun _ h9 => h9) rfl dX0_move_2 ?_
  refine kb_icmp_ne (tgt := 18) hx hb dX0_move_5 (by decide) (fun c_x => ?_) (fun h => absurd h (by rw [hgo]; decide))
  refine lv_iload_n hx hb dX0_move_18 rfl (lv_at hl 1 rfl) ?_
  refine kb_eq (tgt := 29) hx hb dX0_move_19 (by decide) (fun h => absurd h (by decide)) (fun _ => ?_)
  refine lv_aload_n hx hb dX0_move_22 rfl (lv_at hl 0 rfl) ?_
  refine kx_callv (vx_runV (As := []) (rest := []) ⟨hx, hb, hml, hown, hts⟩ (c_X0_needMayOpen l D h0 hn hd hq cZ cD cI nb v ln go mv hln hl0  ) (cwV 0 hts gX0_move_X0_needMayOpen rfl rfl rfl (by decide +kernel) ⟨Nat.le_of_ble_eq_true rfl, Nat.le_of_ble_eq_true rfl⟩) ⟨fun a U g mk q => ⟨q.1, xOK_call q.2.1 g mk a, q.2.2.1, va_K.moved (u := U) (U := U.calling g mk a) (Vm.Alike.refl U.vm) q.2.2.2⟩, va_recv hK hP (ci := 1) (q0 := 0) rfl rfl, fun U hU hW => ⟨rfl, xOK_at hX hU hW, by rw [hU]; exact hP, va_K.moved hW.alike hK⟩⟩ rfl rfl hl.1 rfl (lv_room (Nat.le_of_ble_eq_true rfl)) dX0_move_23 ⟨Nat.le_of_ble_eq_true rfl, Nat.le_of_ble_eq_true rfl⟩) hno hlocks (fun E hE => hE.elim (fun h => absurd (ho1.symm.trans h.2) (by decide)) (fun h => ho2.elim (fun q => absurd (h.2.2.1.symm.trans q) (by decide)) (fun q => absurd (h.2.2.2.symm.trans q) (by decide)))) (Nat.le_of_ble_eq_true rfl) (Nat.le_of_ble_eq_true rfl) (fun h_1 => ?_)
  refine lv_goto (tgt := 33) hx hb dX0_move_26 (by decide) ?_
  refine lv_aload_n hx hb dX0_move_33 rfl (lv_at hl 0 rfl) ?_
  refine lv_iload_n hx hb dX0_move_34 rfl (lv_at hl 1 rfl) ?_
  refine va_put (D := D) (ci := 1) (v := .int (b2i true)) (ty := .boolean) (C := RX0) (T := TX0) (N := 5) hx hb hts hinRX0 tyX0 tyX0_ok nmX0 hown hK hP hD hS 0 rfl rfl 3 (by decide) hf_21 (fun _ h9 => h9) rfl (by decide +kernel) (b2i_nar _) (b2i_fit _) (Nat.le_of_ble_eq_true rfl) dX0_move_35 (fun H locs hP hD hS => ?_)
  have hP : va_P D vwCl (WB h0 hn hd hq cZ cD cI nb v ln true mv) H := hP
  have hD : va_D A (WB h0 hn hd hq cZ cD cI nb v ln true mv) := hD
  refine lv_aload_n hx hb dX0_move_38 rfl (lv_at hl 0 rfl) ?_
  refine lv_dup hx hb dX0_move_39 rfl ?_
  refine va_get (D := D) (ci := 1) (v := .int mv) (C := RX0) (T := TX0) (N := 5) hx hb hts hinRX0 hown hK hP 0 rfl rfl 4 (by decide) hf_25 (fun _ h9 => h9) rfl dX0_move_40 ?_
  refine lv_iconst (v := nI 1) hx hb dX0_move_43 (by decide) ?_
  refine lv_iadd hx hb dX0_move_44 ?_
  refine va_put (D := D) (ci := 1) (v := .int (mv + (nI 1))) (ty := .int) (C := RX0) (T := TX0) (N := 5) hx hb hts hinRX0 tyX0 tyX0_ok nmX0 hown hK hP hD hS 0 rfl rfl 4 (by decide) hf_25 (fun _ h9 => h9) rfl (by decide +kernel) rfl rfl (Nat.le_of_ble_eq_true rfl) dX0_move_45 (fun H locs hP hD hS => ?_)
  have hP : va_P D vwCl (WB h0 hn hd hq cZ cD cI nb v ln true (mv + (nI 1))) H := hP
  have hD : va_D A (WB h0 hn hd hq cZ cD cI nb v ln true (mv + (nI 1))) := hD
  refine lv_aload_n hx hb dX0_move_48 rfl (lv_at hl 0 rfl) ?_
  refine va_get (D := D) (ci := 1) (v := .int (mv + (nI 1))) (C := RX0) (T := TX0) (N := 5) hx hb hts hinRX0 hown hK hP 0 rfl rfl 4 (by decide) hf_25 (fun _ h9 => h9) rfl dX0_move_49 ?_
  refine vx_ret ?_
  refine W.widen (k := 1) (n := 6) (Nat.le_of_ble_eq_true rfl) (Nat.le_of_ble_eq_true rfl) ?_
  exact W.iret (v := mv + (nI 1)) hx hb hr (fun t9 ht9 hW9 => ⟨⟨_, rfl, rfl, by rw [ht9]; exact hP⟩, hS.F ht9⟩) hS.2.2 dX0_move_52
theorem c_X0_move_open (l : Launch) (D : va_G) (h0 hn hd hq : Nat) (cZ cD cI : ClassId) (nb : Nat → Bool) (v : Nat → UInt64) (ln : Nat → Nat) (go : Bool) (mv : Int32) (hln : ∀ j, ln j ≤ 12) (hl0 : l.stackTraces = false) (sz : Nat)  (hgo : go = false) (ho1 : rp nb v (lp ln (0 * 2 + 0)) (lp ln (1 * 2 + 0)) 2 = true) (ho2 : nb (144 + 1 * 3 + 2) = false ∨ rp nb v (lp ln (1 * 2 + 1)) (144 + 1 * 3 + 2) 0 = true) : Met l yX0_move wsX0_move ({ frames := 7, cells := 1, slots := 6, locals := 103 }) (va_Pc [.ref h0, .int (b2i true)] (fun U => xOK U ∧ U.heap.size = sz ∧ va_P D vwCl (WB h0 hn hd hq cZ cD cI nb v ln go mv) U.heap ∧ va_K D vwCl (TY cZ cD cI) U ∧ va_D (fun _ => True) (WB h0 hn hd hq cZ cD cI nb v ln go mv))) (wr_Qi (fun r => r = (mv + 1)) (fun H => va_P D vwCl (WB h0 hn hd hq cZ cD cI nb v ln true (mv + 1)) H) (va_A (WB h0 hn hd hq cZ cD cI nb v ln go mv) sz)) 1 6 (va_A (WB h0 hn hd hq cZ cD cI nb v ln go mv) sz) := met_of_ok (c_X0_move_open_x l D h0 hn hd hq cZ cD cI nb v ln go mv hln hl0 sz hgo ho1 ho2)
set_option maxHeartbeats 4000000 in
set_option maxRecDepth 100000 in
theorem c_X0_move_shut_x (l : Launch) (D : va_G) (h0 hn hd hq : Nat) (cZ cD cI : ClassId) (nb : Nat → Bool) (v : Nat → UInt64) (ln : Nat → Nat) (go : Bool) (mv : Int32) (hln : ∀ j, ln j ≤ 12) (hl0 : l.stackTraces = false) (sz : Nat)  (hgo : go = true) (hs1 : rp nb v (lp ln (0 * 2 + 0)) (144 + 0 * 3 + 0) 2 = false) (hs2 : rp nb v (lp ln (1 * 2 + 0)) (144 + 0 * 3 + 1) 1 = false) : vx_Met l yX0_move wsX0_move ({ frames := 7, cells := 1, slots := 6, locals := 102 }) (va_Pc [.ref h0, .int (b2i false)] (fun U => xOK U ∧ U.heap.size = sz ∧ va_P D vwCl (WB h0 hn hd hq cZ cD cI nb v ln go mv) U.heap ∧ va_K D vwCl (TY cZ cD cI) U ∧ va_D (fun _ => True) (WB h0 hn hd hq cZ cD cI nb v ln go mv))) (wr_Qi (fun r => r = (mv + 1)) (fun H => va_P D vwCl (WB h0 hn hd hq cZ cD cI nb v ln false (mv + 1)) H) (va_A (WB h0 hn hd hq cZ cD cI nb v ln go mv) sz)) (rd_X (fun E => False)) 1 6 (va_A (WB h0 hn hd hq cZ cD cI nb v ln go mv) sz) := by
  refine vx_ofW (cc := cX0_move) (maxL := 2) (ret := some .int) (by decide) rfl ?_
  intro p e s m args below meth c s₁ B hml hno hv
  obtain ⟨rfl, hX, hsz_, hP, hK, hD0⟩ := hv
  have hx := B.exec
  have hb := B.bytes
  have hr := B.returns
  have hts := atoms_spec (ws := wsX0_move) B.pre
  have hown : s.vm.findClass RX0 = some m.cls := findClass_of_methodNamed B.named
  have hlocks := B.notSynchronized
  subst hsz_
  have hD := hD0.self (sz := s.heap.size)
  generalize hAe : va_A (WB h0 hn hd hq cZ cD cI nb v ln go mv) s.heap.size = A at hD ⊢
  have hA : ∀ q : Nat, s.heap.size ≤ q → A q := fun q h => by rw [← hAe]; exact Or.inr h
  have hS : va_S A s.heap s.heap [] := va_S.rf
  have hl := lv_entry ([.ref h0, .int (b2i false)]) (n := 2) (Nat.le_of_ble_eq_true rfl)
  rw [lg_entry_eq]
  generalize (lg_sl ([.ref h0, .int (b2i false)]) ++ List.replicate (2 - (lg_sl ([.ref h0, .int (b2i false)])).length) Slot.unset).toArray = ls at hl ⊢
  have hl : lv_has ls 2 [(0, .ref h0), (1, .int (b2i false))] := hl
  have hinRX0 : ∀ w ∈ wsX00, w ∈ wsX0_move := by decide +kernel
  have hf_21 := hts (.fieldLink RX0 21 "HarbourBoard" "gateOpen" "Z") (by decide +kernel)
  have hf_25 := hts (.fieldLink RX0 25 "HarbourBoard" "moves" "I") (by decide +kernel)
  refine lv_iload_n hx hb dX0_move_0 rfl (lv_at hl 1 rfl) ?_
  refine lv_aload_n hx hb dX0_move_1 rfl (lv_at hl 0 rfl) ?_
  refine va_get (D := D) (ci := 1) (v := .int (b2i go)) (C := RX0) (T := TX0) (N := 5) hx hb hts hinRX0 hown hK hP 0 rfl rfl 3 (by decide) hf_21 (fun _ h9 => h9) rfl dX0_move_2 ?_
  refine kb_icmp_ne (tgt := 18) hx hb dX0_move_5 (by decide) (fun c_x => ?_) (fun h => absurd h (by rw [hgo]; decide))
  refine lv_iload_n hx hb dX0_move_18 rfl (lv_at hl 1 rfl) ?_
  refine kb_eq (tgt := 29) hx hb dX0_move_19 (by decide) (fun _ => ?_) (fun h => absurd h (by decide))
  refine lv_aload_n hx hb dX0_move_29 rfl (lv_at hl 0 rfl) ?_
  refine kx_callv (vx_runV (As := []) (rest := []) ⟨hx, hb, hml, hown, hts⟩ (c_X0_needMayShut l D h0 hn hd hq cZ cD cI nb v ln go mv hln hl0  ) (cwV 0 hts gX0_move_X0_needMayShut rfl rfl rfl (by decide +kernel) ⟨Nat.le_of_ble_eq_true rfl, Nat.le_of_ble_eq_true rfl⟩) ⟨fun a U g mk q => ⟨q.1, xOK_call q.2.1 g mk a, q.2.2.1, va_K.moved (u := U) (U := U.calling g mk a) (Vm.Alike.refl U.vm) q.2.2.2⟩, va_recv hK hP (ci := 1) (q0 := 0) rfl rfl, fun U hU hW => ⟨rfl, xOK_at hX hU hW, by rw [hU]; exact hP, va_K.moved hW.alike hK⟩⟩ rfl rfl hl.1 rfl (lv_room (Nat.le_of_ble_eq_true rfl)) dX0_move_30 ⟨Nat.le_of_ble_eq_true rfl, Nat.le_of_ble_eq_true rfl⟩) hno hlocks (fun E hE => hE.elim (fun h => absurd (hs1.symm.trans h.2) (by decide)) (fun h => absurd (hs2.symm.trans h.2.2) (by decide))) (Nat.le_of_ble_eq_true rfl) (Nat.le_of_ble_eq_true rfl) (fun h_1 => ?_)
  refine lv_aload_n hx hb dX0_move_33 rfl (lv_at hl 0 rfl) ?_
  refine lv_iload_n hx hb dX0_move_34 rfl (lv_at hl 1 rfl) ?_
  refine va_put (D := D) (ci := 1) (v := .int (b2i false)) (ty := .boolean) (C := RX0) (T := TX0) (N := 5) hx hb hts hinRX0 tyX0 tyX0_ok nmX0 hown hK hP hD hS 0 rfl rfl 3 (by decide) hf_21 (fun _ h9 => h9) rfl (by decide +kernel) (b2i_nar _) (b2i_fit _) (Nat.le_of_ble_eq_true rfl) dX0_move_35 (fun H locs hP hD hS => ?_)
  have hP : va_P D vwCl (WB h0 hn hd hq cZ cD cI nb v ln false mv) H := hP
  have hD : va_D A (WB h0 hn hd hq cZ cD cI nb v ln false mv) := hD
  refine lv_aload_n hx hb dX0_move_38 rfl (lv_at hl 0 rfl) ?_
  refine lv_dup hx hb dX0_move_39 rfl ?_
  refine va_get (D := D) (ci := 1) (v := .int mv) (C := RX0) (T := TX0) (N := 5) hx hb hts hinRX0 hown hK hP 0 rfl rfl 4 (by decide) hf_25 (fun _ h9 => h9) rfl dX0_move_40 ?_
  refine lv_iconst (v := nI 1) hx hb dX0_move_43 (by decide) ?_
  refine lv_iadd hx hb dX0_move_44 ?_
  refine va_put (D := D) (ci := 1) (v := .int (mv + (nI 1))) (ty := .int) (C := RX0) (T := TX0) (N := 5) hx hb hts hinRX0 tyX0 tyX0_ok nmX0 hown hK hP hD hS 0 rfl rfl 4 (by decide) hf_25 (fun _ h9 => h9) rfl (by decide +kernel) rfl rfl (Nat.le_of_ble_eq_true rfl) dX0_move_45 (fun H locs hP hD hS => ?_)
  have hP : va_P D vwCl (WB h0 hn hd hq cZ cD cI nb v ln false (mv + (nI 1))) H := hP
  have hD : va_D A (WB h0 hn hd hq cZ cD cI nb v ln false (mv + (nI 1))) := hD
  refine lv_aload_n hx hb dX0_move_48 rfl (lv_at hl 0 rfl) ?_
  refine va_get (D := D) (ci := 1) (v := .int (mv + (nI 1))) (C := RX0) (T := TX0) (N := 5) hx hb hts hinRX0 hown hK hP 0 rfl rfl 4 (by decide) hf_25 (fun _ h9 => h9) rfl dX0_move_49 ?_
  refine vx_ret ?_
  refine W.widen (k := 1) (n := 6) (Nat.le_of_ble_eq_true rfl) (Nat.le_of_ble_eq_true rfl) ?_
  exact W.iret (v := mv + (nI 1)) hx hb hr (fun t9 ht9 hW9 => ⟨⟨_, rfl, rfl, by rw [ht9]; exact hP⟩, hS.F ht9⟩) hS.2.2 dX0_move_52
theorem c_X0_move_shut (l : Launch) (D : va_G) (h0 hn hd hq : Nat) (cZ cD cI : ClassId) (nb : Nat → Bool) (v : Nat → UInt64) (ln : Nat → Nat) (go : Bool) (mv : Int32) (hln : ∀ j, ln j ≤ 12) (hl0 : l.stackTraces = false) (sz : Nat)  (hgo : go = true) (hs1 : rp nb v (lp ln (0 * 2 + 0)) (144 + 0 * 3 + 0) 2 = false) (hs2 : rp nb v (lp ln (1 * 2 + 0)) (144 + 0 * 3 + 1) 1 = false) : Met l yX0_move wsX0_move ({ frames := 7, cells := 1, slots := 6, locals := 102 }) (va_Pc [.ref h0, .int (b2i false)] (fun U => xOK U ∧ U.heap.size = sz ∧ va_P D vwCl (WB h0 hn hd hq cZ cD cI nb v ln go mv) U.heap ∧ va_K D vwCl (TY cZ cD cI) U ∧ va_D (fun _ => True) (WB h0 hn hd hq cZ cD cI nb v ln go mv))) (wr_Qi (fun r => r = (mv + 1)) (fun H => va_P D vwCl (WB h0 hn hd hq cZ cD cI nb v ln false (mv + 1)) H) (va_A (WB h0 hn hd hq cZ cD cI nb v ln go mv) sz)) 1 6 (va_A (WB h0 hn hd hq cZ cD cI nb v ln go mv) sz) := met_of_ok (c_X0_move_shut_x l D h0 hn hd hq cZ cD cI nb v ln go mv hln hl0 sz hgo hs1 hs2)
set_option maxHeartbeats 4000000 in
set_option maxRecDepth 100000 in
theorem c_X0_move_already_true (l : Launch) (D : va_G) (h0 hn hd hq : Nat) (cZ cD cI : ClassId) (nb : Nat → Bool) (v : Nat → UInt64) (ln : Nat → Nat) (go : Bool) (mv : Int32) (hln : ∀ j, ln j ≤ 12) (hl0 : l.stackTraces = false)  (hgo : go = true) : vx_Met l yX0_move wsX0_move ({ frames := 6, cells := 1, slots := 6, locals := 82 }) (va_Pc [.ref h0, .int (b2i true)] (fun U => xOK U ∧ va_P D vwCl (WB h0 hn hd hq cZ cD cI nb v ln go mv) U.heap ∧ va_K D vwCl (TY cZ cD cI) U)) (fun _ _ _ _ => False) (rd_X (fun E => E = ISE)) 1 6 (fun _ => False) := by
  refine vx_ofW (cc := cX0_move) (maxL := 2) (ret := some .int) (by decide) rfl ?_
  intro p e s m args below meth c s₁ B hml hno hv
  obtain ⟨rfl, hX, hP, hK⟩ := hv
  have hx := B.exec
  have hb := B.bytes
  have hr := B.returns
  have hts := atoms_spec (ws := wsX0_move) B.pre
  have hown : s.vm.findClass RX0 = some m.cls := findClass_of_methodNamed B.named
  have hlocks := B.notSynchronized
  have hl := lv_entry ([.ref h0, .int (b2i true)]) (n := 2) (Nat.le_of_ble_eq_true rfl)
  rw [lg_entry_eq]
  generalize (lg_sl ([.ref h0, .int (b2i true)]) ++ List.replicate (2 - (lg_sl ([.ref h0, .int (b2i true)])).length) Slot.unset).toArray = ls at hl ⊢
  have hl : lv_has ls 2 [(0, .ref h0), (1, .int (b2i true))] := hl
  have hinRX0 : ∀ w ∈ wsX00, w ∈ wsX0_move := by decide +kernel
  have hf_21 := hts (.fieldLink RX0 21 "HarbourBoard" "gateOpen" "Z") (by decide +kernel)
  refine lv_iload_n hx hb dX0_move_0 rfl (lv_at hl 1 rfl) ?_
  refine lv_aload_n hx hb dX0_move_1 rfl (lv_at hl 0 rfl) ?_
  refine va_get (D := D) (ci := 1) (v := .int (b2i go)) (C := RX0) (T := TX0) (N := 5) hx hb hts hinRX0 hown hK hP 0 rfl rfl 3 (by decide) hf_21 (fun _ h9 => h9) rfl dX0_move_2 ?_
  refine kb_icmp_ne (tgt := 18) hx hb dX0_move_5 (by decide) (fun h => absurd (by rw [hgo]) h) (fun c_x => ?_)
  exact th_S (l := l) hx hb hl0 hown (by decide +kernel) (hts (.classLink RX0 127 ISE) (by decide +kernel)) (hts (.initialized ISE) (by decide +kernel)) (xS_129 hX.2.1) (fun w h => hts w (List.mem_cons_of_mem _ (List.mem_append_left _ (List.mem_append_left _ (List.mem_append_right _ h))))) xn_ISE hX.2.2.2.2.1 xg_ISE hX (by rw [hml]; exact hl.1) dX0_move_8 dX0_move_11 dX0_move_12 dX0_move_14 dX0_move_17 hno (Nat.le_of_ble_eq_true rfl) (Nat.le_of_ble_eq_true rfl) (Nat.le_of_ble_eq_true rfl) (Nat.le_of_ble_eq_true rfl) hlocks (rfl) (Nat.le_of_ble_eq_true rfl) (Nat.le_of_ble_eq_true rfl)
set_option maxHeartbeats 4000000 in
set_option maxRecDepth 100000 in
theorem c_X0_move_already_false (l : Launch) (D : va_G) (h0 hn hd hq : Nat) (cZ cD cI : ClassId) (nb : Nat → Bool) (v : Nat → UInt64) (ln : Nat → Nat) (go : Bool) (mv : Int32) (hln : ∀ j, ln j ≤ 12) (hl0 : l.stackTraces = false)  (hgo : go = false) : vx_Met l yX0_move wsX0_move ({ frames := 6, cells := 1, slots := 6, locals := 82 }) (va_Pc [.ref h0, .int (b2i false)] (fun U => xOK U ∧ va_P D vwCl (WB h0 hn hd hq cZ cD cI nb v ln go mv) U.heap ∧ va_K D vwCl (TY cZ cD cI) U)) (fun _ _ _ _ => False) (rd_X (fun E => E = ISE)) 1 6 (fun _ => False) := by
  refine vx_ofW (cc := cX0_move) (maxL := 2) (ret := some .int) (by decide) rfl ?_
  intro p e s m args below meth c s₁ B hml hno hv
  obtain ⟨rfl, hX, hP, hK⟩ := hv
  have hx := B.exec
  have hb := B.bytes
  have hr := B.returns
  have hts := atoms_spec (ws := wsX0_move) B.pre
  have hown : s.vm.findClass RX0 = some m.cls := findClass_of_methodNamed B.named
  have hlocks := B.notSynchronized
  have hl := lv_entry ([.ref h0, .int (b2i false)]) (n := 2) (Nat.le_of_ble_eq_true rfl)
  rw [lg_entry_eq]
  generalize (lg_sl ([.ref h0, .int (b2i false)]) ++ List.replicate (2 - (lg_sl ([.ref h0, .int (b2i false)])).length) Slot.unset).toArray = ls at hl ⊢
  have hl : lv_has ls 2 [(0, .ref h0), (1, .int (b2i false))] := hl
  have hinRX0 : ∀ w ∈ wsX00, w ∈ wsX0_move := by decide +kernel
  have hf_21 := hts (.fieldLink RX0 21 "HarbourBoard" "gateOpen" "Z") (by decide +kernel)
  refine lv_iload_n hx hb dX0_move_0 rfl (lv_at hl 1 rfl) ?_
  refine lv_aload_n hx hb dX0_move_1 rfl (lv_at hl 0 rfl) ?_
  refine va_get (D := D) (ci := 1) (v := .int (b2i go)) (C := RX0) (T := TX0) (N := 5) hx hb hts hinRX0 hown hK hP 0 rfl rfl 3 (by decide) hf_21 (fun _ h9 => h9) rfl dX0_move_2 ?_
  refine kb_icmp_ne (tgt := 18) hx hb dX0_move_5 (by decide) (fun h => absurd (by rw [hgo]) h) (fun c_x => ?_)
  exact th_S (l := l) hx hb hl0 hown (by decide +kernel) (hts (.classLink RX0 127 ISE) (by decide +kernel)) (hts (.initialized ISE) (by decide +kernel)) (xS_129 hX.2.1) (fun w h => hts w (List.mem_cons_of_mem _ (List.mem_append_left _ (List.mem_append_left _ (List.mem_append_right _ h))))) xn_ISE hX.2.2.2.2.1 xg_ISE hX (by rw [hml]; exact hl.1) dX0_move_8 dX0_move_11 dX0_move_12 dX0_move_14 dX0_move_17 hno (Nat.le_of_ble_eq_true rfl) (Nat.le_of_ble_eq_true rfl) (Nat.le_of_ble_eq_true rfl) (Nat.le_of_ble_eq_true rfl) hlocks (rfl) (Nat.le_of_ble_eq_true rfl) (Nat.le_of_ble_eq_true rfl)
set_option maxHeartbeats 4000000 in
set_option maxRecDepth 100000 in
theorem c_X0_move_x1 (l : Launch) (D : va_G) (h0 hn hd hq : Nat) (cZ cD cI : ClassId) (nb : Nat → Bool) (v : Nat → UInt64) (ln : Nat → Nat) (go : Bool) (mv : Int32) (hln : ∀ j, ln j ≤ 12) (hl0 : l.stackTraces = false)  (hgo : go = false) (ho1 : rp nb v (lp ln (0 * 2 + 0)) (lp ln (1 * 2 + 0)) 2 = false) : vx_Met l yX0_move wsX0_move ({ frames := 7, cells := 1, slots := 6, locals := 103 }) (va_Pc [.ref h0, .int (b2i true)] (fun U => xOK U ∧ va_P D vwCl (WB h0 hn hd hq cZ cD cI nb v ln go mv) U.heap ∧ va_K D vwCl (TY cZ cD cI) U)) (fun _ _ _ _ => False) (rd_X (fun E => E = UOE)) 1 6 (fun _ => False) := by
  refine vx_ofW (cc := cX0_move) (maxL := 2) (ret := some .int) (by decide) rfl ?_
  intro p e s m args below meth c s₁ B hml hno hv
  obtain ⟨rfl, hX, hP, hK⟩ := hv
  have hx := B.exec
  have hb := B.bytes
  have hr := B.returns
  have hts := atoms_spec (ws := wsX0_move) B.pre
  have hown : s.vm.findClass RX0 = some m.cls := findClass_of_methodNamed B.named
  have hlocks := B.notSynchronized
  have hl := lv_entry ([.ref h0, .int (b2i true)]) (n := 2) (Nat.le_of_ble_eq_true rfl)
  rw [lg_entry_eq]
  generalize (lg_sl ([.ref h0, .int (b2i true)]) ++ List.replicate (2 - (lg_sl ([.ref h0, .int (b2i true)])).length) Slot.unset).toArray = ls at hl ⊢
  have hl : lv_has ls 2 [(0, .ref h0), (1, .int (b2i true))] := hl
  have hinRX0 : ∀ w ∈ wsX00, w ∈ wsX0_move := by decide +kernel
  have hf_21 := hts (.fieldLink RX0 21 "HarbourBoard" "gateOpen" "Z") (by decide +kernel)
  refine lv_iload_n hx hb dX0_move_0 rfl (lv_at hl 1 rfl) ?_
  refine lv_aload_n hx hb dX0_move_1 rfl (lv_at hl 0 rfl) ?_
  refine va_get (D := D) (ci := 1) (v := .int (b2i go)) (C := RX0) (T := TX0) (N := 5) hx hb hts hinRX0 hown hK hP 0 rfl rfl 3 (by decide) hf_21 (fun _ h9 => h9) rfl dX0_move_2 ?_
  refine kb_icmp_ne (tgt := 18) hx hb dX0_move_5 (by decide) (fun c_x => ?_) (fun h => absurd h (by rw [hgo]; decide))
  refine lv_iload_n hx hb dX0_move_18 rfl (lv_at hl 1 rfl) ?_
  refine kb_eq (tgt := 29) hx hb dX0_move_19 (by decide) (fun h => absurd h (by decide)) (fun _ => ?_)
  refine lv_aload_n hx hb dX0_move_22 rfl (lv_at hl 0 rfl) ?_
  refine kx_callv (vx_runV (As := []) (rest := []) ⟨hx, hb, hml, hown, hts⟩ (c_X0_needMayOpen l D h0 hn hd hq cZ cD cI nb v ln go mv hln hl0  ) (cwV 0 hts gX0_move_X0_needMayOpen rfl rfl rfl (by decide +kernel) ⟨Nat.le_of_ble_eq_true rfl, Nat.le_of_ble_eq_true rfl⟩) ⟨fun a U g mk q => ⟨q.1, xOK_call q.2.1 g mk a, q.2.2.1, va_K.moved (u := U) (U := U.calling g mk a) (Vm.Alike.refl U.vm) q.2.2.2⟩, va_recv hK hP (ci := 1) (q0 := 0) rfl rfl, fun U hU hW => ⟨rfl, xOK_at hX hU hW, by rw [hU]; exact hP, va_K.moved hW.alike hK⟩⟩ rfl rfl hl.1 rfl (lv_room (Nat.le_of_ble_eq_true rfl)) dX0_move_23 ⟨Nat.le_of_ble_eq_true rfl, Nat.le_of_ble_eq_true rfl⟩) hno hlocks (fun E hE => hE.elim (fun h => h.1) (fun h => absurd (ho1.symm.trans h.2.1) (by decide))) (Nat.le_of_ble_eq_true rfl) (Nat.le_of_ble_eq_true rfl) (fun h_1 => ?_)
  exact (absurd (ho1.symm.trans h_1.1) (by decide))
set_option maxHeartbeats 4000000 in
set_option maxRecDepth 100000 in
theorem c_X0_move_x2 (l : Launch) (D : va_G) (h0 hn hd hq : Nat) (cZ cD cI : ClassId) (nb : Nat → Bool) (v : Nat → UInt64) (ln : Nat → Nat) (go : Bool) (mv : Int32) (hln : ∀ j, ln j ≤ 12) (hl0 : l.stackTraces = false)  (hgo : go = false) (ho1 : rp nb v (lp ln (0 * 2 + 0)) (lp ln (1 * 2 + 0)) 2 = true) (ho2 : nb (144 + 1 * 3 + 2) = true) (ho3 : rp nb v (lp ln (1 * 2 + 1)) (144 + 1 * 3 + 2) 0 = false) : vx_Met l yX0_move wsX0_move ({ frames := 7, cells := 1, slots := 6, locals := 103 }) (va_Pc [.ref h0, .int (b2i true)] (fun U => xOK U ∧ va_P D vwCl (WB h0 hn hd hq cZ cD cI nb v ln go mv) U.heap ∧ va_K D vwCl (TY cZ cD cI) U)) (fun _ _ _ _ => False) (rd_X (fun E => E = AE)) 1 6 (fun _ => False) := by
  refine vx_ofW (cc := cX0_move) (maxL := 2) (ret := some .int) (by decide) rfl ?_
  intro p e s m args below meth c s₁ B hml hno hv
  obtain ⟨rfl, hX, hP, hK⟩ := hv
  have hx := B.exec
  have hb := B.bytes
  have hr := B.returns
  have hts := atoms_spec (ws := wsX0_move) B.pre
  have hown : s.vm.findClass RX0 = some m.cls := findClass_of_methodNamed B.named
  have hlocks := B.notSynchronized
  have hl := lv_entry ([.ref h0, .int (b2i true)]) (n := 2) (Nat.le_of_ble_eq_true rfl)
  rw [lg_entry_eq]
  generalize (lg_sl ([.ref h0, .int (b2i true)]) ++ List.replicate (2 - (lg_sl ([.ref h0, .int (b2i true)])).length) Slot.unset).toArray = ls at hl ⊢
  have hl : lv_has ls 2 [(0, .ref h0), (1, .int (b2i true))] := hl
  have hinRX0 : ∀ w ∈ wsX00, w ∈ wsX0_move := by decide +kernel
  have hf_21 := hts (.fieldLink RX0 21 "HarbourBoard" "gateOpen" "Z") (by decide +kernel)
  refine lv_iload_n hx hb dX0_move_0 rfl (lv_at hl 1 rfl) ?_
  refine lv_aload_n hx hb dX0_move_1 rfl (lv_at hl 0 rfl) ?_
  refine va_get (D := D) (ci := 1) (v := .int (b2i go)) (C := RX0) (T := TX0) (N := 5) hx hb hts hinRX0 hown hK hP 0 rfl rfl 3 (by decide) hf_21 (fun _ h9 => h9) rfl dX0_move_2 ?_
  refine kb_icmp_ne (tgt := 18) hx hb dX0_move_5 (by decide) (fun c_x => ?_) (fun h => absurd h (by rw [hgo]; decide))
  refine lv_iload_n hx hb dX0_move_18 rfl (lv_at hl 1 rfl) ?_
  refine kb_eq (tgt := 29) hx hb dX0_move_19 (by decide) (fun h => absurd h (by decide)) (fun _ => ?_)
  refine lv_aload_n hx hb dX0_move_22 rfl (lv_at hl 0 rfl) ?_
  refine kx_callv (vx_runV (As := []) (rest := []) ⟨hx, hb, hml, hown, hts⟩ (c_X0_needMayOpen l D h0 hn hd hq cZ cD cI nb v ln go mv hln hl0  ) (cwV 0 hts gX0_move_X0_needMayOpen rfl rfl rfl (by decide +kernel) ⟨Nat.le_of_ble_eq_true rfl, Nat.le_of_ble_eq_true rfl⟩) ⟨fun a U g mk q => ⟨q.1, xOK_call q.2.1 g mk a, q.2.2.1, va_K.moved (u := U) (U := U.calling g mk a) (Vm.Alike.refl U.vm) q.2.2.2⟩, va_recv hK hP (ci := 1) (q0 := 0) rfl rfl, fun U hU hW => ⟨rfl, xOK_at hX hU hW, by rw [hU]; exact hP, va_K.moved hW.alike hK⟩⟩ rfl rfl hl.1 rfl (lv_room (Nat.le_of_ble_eq_true rfl)) dX0_move_23 ⟨Nat.le_of_ble_eq_true rfl, Nat.le_of_ble_eq_true rfl⟩) hno hlocks (fun E hE => hE.elim (fun h => absurd (ho1.symm.trans h.2) (by decide)) (fun h => h.1)) (Nat.le_of_ble_eq_true rfl) (Nat.le_of_ble_eq_true rfl) (fun h_1 => ?_)
  exact (h_1.2.elim (fun q => absurd (ho2.symm.trans q) (by decide)) (fun q => absurd (ho3.symm.trans q) (by decide)))
set_option maxHeartbeats 4000000 in
set_option maxRecDepth 100000 in
theorem c_X0_move_x3 (l : Launch) (D : va_G) (h0 hn hd hq : Nat) (cZ cD cI : ClassId) (nb : Nat → Bool) (v : Nat → UInt64) (ln : Nat → Nat) (go : Bool) (mv : Int32) (hln : ∀ j, ln j ≤ 12) (hl0 : l.stackTraces = false)  (hgo : go = true) (hs1 : rp nb v (lp ln (0 * 2 + 0)) (144 + 0 * 3 + 0) 2 = true) : vx_Met l yX0_move wsX0_move ({ frames := 7, cells := 1, slots := 6, locals := 102 }) (va_Pc [.ref h0, .int (b2i false)] (fun U => xOK U ∧ va_P D vwCl (WB h0 hn hd hq cZ cD cI nb v ln go mv) U.heap ∧ va_K D vwCl (TY cZ cD cI) U)) (fun _ _ _ _ => False) (rd_X (fun E => E = UOE)) 1 6 (fun _ => False) := by
  refine vx_ofW (cc := cX0_move) (maxL := 2) (ret := some .int) (by decide) rfl ?_
  intro p e s m args below meth c s₁ B hml hno hv
  obtain ⟨rfl, hX, hP, hK⟩ := hv
  have hx := B.exec
  have hb := B.bytes
  have hr := B.returns
  have hts := atoms_spec (ws := wsX0_move) B.pre
  have hown : s.vm.findClass RX0 = some m.cls := findClass_of_methodNamed B.named
  have hlocks := B.notSynchronized
  have hl := lv_entry ([.ref h0, .int (b2i false)]) (n := 2) (Nat.le_of_ble_eq_true rfl)
  rw [lg_entry_eq]
  generalize (lg_sl ([.ref h0, .int (b2i false)]) ++ List.replicate (2 - (lg_sl ([.ref h0, .int (b2i false)])).length) Slot.unset).toArray = ls at hl ⊢
  have hl : lv_has ls 2 [(0, .ref h0), (1, .int (b2i false))] := hl
  have hinRX0 : ∀ w ∈ wsX00, w ∈ wsX0_move := by decide +kernel
  have hf_21 := hts (.fieldLink RX0 21 "HarbourBoard" "gateOpen" "Z") (by decide +kernel)
  refine lv_iload_n hx hb dX0_move_0 rfl (lv_at hl 1 rfl) ?_
  refine lv_aload_n hx hb dX0_move_1 rfl (lv_at hl 0 rfl) ?_
  refine va_get (D := D) (ci := 1) (v := .int (b2i go)) (C := RX0) (T := TX0) (N := 5) hx hb hts hinRX0 hown hK hP 0 rfl rfl 3 (by decide) hf_21 (fun _ h9 => h9) rfl dX0_move_2 ?_
  refine kb_icmp_ne (tgt := 18) hx hb dX0_move_5 (by decide) (fun c_x => ?_) (fun h => absurd h (by rw [hgo]; decide))
  refine lv_iload_n hx hb dX0_move_18 rfl (lv_at hl 1 rfl) ?_
  refine kb_eq (tgt := 29) hx hb dX0_move_19 (by decide) (fun _ => ?_) (fun h => absurd h (by decide))
  refine lv_aload_n hx hb dX0_move_29 rfl (lv_at hl 0 rfl) ?_
  refine kx_callv (vx_runV (As := []) (rest := []) ⟨hx, hb, hml, hown, hts⟩ (c_X0_needMayShut l D h0 hn hd hq cZ cD cI nb v ln go mv hln hl0  ) (cwV 0 hts gX0_move_X0_needMayShut rfl rfl rfl (by decide +kernel) ⟨Nat.le_of_ble_eq_true rfl, Nat.le_of_ble_eq_true rfl⟩) ⟨fun a U g mk q => ⟨q.1, xOK_call q.2.1 g mk a, q.2.2.1, va_K.moved (u := U) (U := U.calling g mk a) (Vm.Alike.refl U.vm) q.2.2.2⟩, va_recv hK hP (ci := 1) (q0 := 0) rfl rfl, fun U hU hW => ⟨rfl, xOK_at hX hU hW, by rw [hU]; exact hP, va_K.moved hW.alike hK⟩⟩ rfl rfl hl.1 rfl (lv_room (Nat.le_of_ble_eq_true rfl)) dX0_move_30 ⟨Nat.le_of_ble_eq_true rfl, Nat.le_of_ble_eq_true rfl⟩) hno hlocks (fun E hE => hE.elim (fun h => h.1) (fun h => absurd (hs1.symm.trans h.2.1) (by decide))) (Nat.le_of_ble_eq_true rfl) (Nat.le_of_ble_eq_true rfl) (fun h_1 => ?_)
  exact (absurd (hs1.symm.trans h_1.1) (by decide))
set_option maxHeartbeats 4000000 in
set_option maxRecDepth 100000 in
theorem c_X0_move_x4 (l : Launch) (D : va_G) (h0 hn hd hq : Nat) (cZ cD cI : ClassId) (nb : Nat → Bool) (v : Nat → UInt64) (ln : Nat → Nat) (go : Bool) (mv : Int32) (hln : ∀ j, ln j ≤ 12) (hl0 : l.stackTraces = false)  (hgo : go = true) (hs1 : rp nb v (lp ln (0 * 2 + 0)) (144 + 0 * 3 + 0) 2 = false) (hs2 : rp nb v (lp ln (1 * 2 + 0)) (144 + 0 * 3 + 1) 1 = true) : vx_Met l yX0_move wsX0_move ({ frames := 7, cells := 1, slots := 6, locals := 102 }) (va_Pc [.ref h0, .int (b2i false)] (fun U => xOK U ∧ va_P D vwCl (WB h0 hn hd hq cZ cD cI nb v ln go mv) U.heap ∧ va_K D vwCl (TY cZ cD cI) U)) (fun _ _ _ _ => False) (rd_X (fun E => E = AE)) 1 6 (fun _ => False) := by
  refine vx_ofW (cc := cX0_move) (maxL := 2) (ret := some .int) (by decide) rfl ?_
  intro p e s m args below meth c s₁ B hml hno hv
  obtain ⟨rfl, hX, hP, hK⟩ := hv
  have hx := B.exec
  have hb := B.bytes
  have hr := B.returns
  have hts := atoms_spec (ws := wsX0_move) B.pre
  have hown : s.vm.findClass RX0 = some m.cls := findClass_of_methodNamed B.named
  have hlocks := B.notSynchronized
  have hl := lv_entry ([.ref h0, .int (b2i false)]) (n := 2) (Nat.le_of_ble_eq_true rfl)
  rw [lg_entry_eq]
  generalize (lg_sl ([.ref h0, .int (b2i false)]) ++ List.replicate (2 - (lg_sl ([.ref h0, .int (b2i false)])).length) Slot.unset).toArray = ls at hl ⊢
  have hl : lv_has ls 2 [(0, .ref h0), (1, .int (b2i false))] := hl
  have hinRX0 : ∀ w ∈ wsX00, w ∈ wsX0_move := by decide +kernel
  have hf_21 := hts (.fieldLink RX0 21 "HarbourBoard" "gateOpen" "Z") (by decide +kernel)
  refine lv_iload_n hx hb dX0_move_0 rfl (lv_at hl 1 rfl) ?_
  refine lv_aload_n hx hb dX0_move_1 rfl (lv_at hl 0 rfl) ?_
  refine va_get (D := D) (ci := 1) (v := .int (b2i go)) (C := RX0) (T := TX0) (N := 5) hx hb hts hinRX0 hown hK hP 0 rfl rfl 3 (by decide) hf_21 (fun _ h9 => h9) rfl dX0_move_2 ?_
  refine kb_icmp_ne (tgt := 18) hx hb dX0_move_5 (by decide) (fun c_x => ?_) (fun h => absurd h (by rw [hgo]; decide))
  refine lv_iload_n hx hb dX0_move_18 rfl (lv_at hl 1 rfl) ?_
  refine kb_eq (tgt := 29) hx hb dX0_move_19 (by decide) (fun _ => ?_) (fun h => absurd h (by decide))
  refine lv_aload_n hx hb dX0_move_29 rfl (lv_at hl 0 rfl) ?_
  refine kx_callv (vx_runV (As := []) (rest := []) ⟨hx, hb, hml, hown, hts⟩ (c_X0_needMayShut l D h0 hn hd hq cZ cD cI nb v ln go mv hln hl0  ) (cwV 0 hts gX0_move_X0_needMayShut rfl rfl rfl (by decide +kernel) ⟨Nat.le_of_ble_eq_true rfl, Nat.le_of_ble_eq_true rfl⟩) ⟨fun a U g mk q => ⟨q.1, xOK_call q.2.1 g mk a, q.2.2.1, va_K.moved (u := U) (U := U.calling g mk a) (Vm.Alike.refl U.vm) q.2.2.2⟩, va_recv hK hP (ci := 1) (q0 := 0) rfl rfl, fun U hU hW => ⟨rfl, xOK_at hX hU hW, by rw [hU]; exact hP, va_K.moved hW.alike hK⟩⟩ rfl rfl hl.1 rfl (lv_room (Nat.le_of_ble_eq_true rfl)) dX0_move_30 ⟨Nat.le_of_ble_eq_true rfl, Nat.le_of_ble_eq_true rfl⟩) hno hlocks (fun E hE => hE.elim (fun h => absurd (hs1.symm.trans h.2) (by decide)) (fun h => h.1)) (Nat.le_of_ble_eq_true rfl) (Nat.le_of_ble_eq_true rfl) (fun h_1 => ?_)
  exact (absurd (hs2.symm.trans h_1.2) (by decide))
set_option maxHeartbeats 4000000 in
set_option maxRecDepth 100000 in
theorem c_X0_level_bad (l : Launch) (D : va_G) (h0 hn hd hq : Nat) (cZ cD cI : ClassId) (nb : Nat → Bool) (v : Nat → UInt64) (ln : Nat → Nat) (go : Bool) (mv : Int32) (hln : ∀ j, ln j ≤ 12) (hl0 : l.stackTraces = false) (x0 : Int32) (y : UInt64) (hbad : ¬ (InN 6 x0 ∧ lvl y = true)) : vx_Met l yX0_level wsX0_level ({ frames := 7, cells := 2, slots := 12, locals := 103 }) (va_Pc [.ref h0, .int x0, .double y] (fun U => xOK U ∧ va_P D vwCl (WB h0 hn hd hq cZ cD cI nb v ln go mv) U.heap ∧ va_K D vwCl (TY cZ cD cI) U)) (fun _ _ _ _ => False) (rd_X (fun E => E = IAE)) 2 12 (fun _ => False) := by
  refine vx_ofW (cc := cX0_level) (maxL := 4) (ret := some .int) (by decide) rfl ?_
  intro p e s m args below meth c s₁ B hml hno hv
  obtain ⟨rfl, hX, hP, hK⟩ := hv
  have hx := B.exec
  have hb := B.bytes
  have hr := B.returns
  have hts := atoms_spec (ws := wsX0_level) B.pre
  have hown : s.vm.findClass RX0 = some m.cls := findClass_of_methodNamed B.named
  have hlocks := B.notSynchronized
  have hl := lv_entry ([.ref h0, .int x0, .double y]) (n := 4) (Nat.le_of_ble_eq_true rfl)
  rw [lg_entry_eq]
  generalize (lg_sl ([.ref h0, .int x0, .double y]) ++ List.replicate (4 - (lg_sl ([.ref h0, .int x0, .double y])).length) Slot.unset).toArray = ls at hl ⊢
  have hl : lv_has ls 4 [(0, .ref h0), (1, .int x0), (2, .double y)] := hl
  refine lv_iload_n hx hb dX0_level_0 rfl (lv_at hl 1 rfl) ?_
  refine kx_callv (vx_runS (As := [.int x0]) (rest := []) ⟨hx, hb, hml, hown, hts⟩ (c_X0_needGauge l hl0 x0 ) (va_cwS 1 hts gX0_level_X0_needGauge rfl rfl rfl (by decide +kernel) ⟨Nat.le_of_ble_eq_true rfl, Nat.le_of_ble_eq_true rfl⟩) ⟨fun a U g mk q => ⟨q.1, xOK_call q.2 g mk a⟩, fun U hU hW => ⟨rfl, xOK_at hX hU hW⟩⟩ rfl rfl hl.1 rfl (lv_room (Nat.le_of_ble_eq_true rfl)) dX0_level_1 ⟨Nat.le_of_ble_eq_true rfl, Nat.le_of_ble_eq_true rfl⟩) hno hlocks (fun E hE => hE.1) (Nat.le_of_ble_eq_true rfl) (Nat.le_of_ble_eq_true rfl) (fun h_1 => ?_)
  refine lv_dload_n hx hb dX0_level_4 rfl (lv_at hl 2 rfl) ?_
  refine kx_callv (vx_runS (As := [.double y]) (rest := []) ⟨hx, hb, hml, hown, hts⟩ (c_X0_needLevel l hl0 y ) (va_cwS 1 hts gX0_level_X0_needLevel rfl rfl rfl (by decide +kernel) ⟨Nat.le_of_ble_eq_true rfl, Nat.le_of_ble_eq_true rfl⟩) ⟨fun a U g mk q => ⟨q.1, xOK_call q.2 g mk a⟩, fun U hU hW => ⟨rfl, xOK_at hX hU hW⟩⟩ rfl rfl hl.1 rfl (lv_room (Nat.le_of_ble_eq_true rfl)) dX0_level_5 ⟨Nat.le_of_ble_eq_true rfl, Nat.le_of_ble_eq_true rfl⟩) hno hlocks (fun E hE => hE.1) (Nat.le_of_ble_eq_true rfl) (Nat.le_of_ble_eq_true rfl) (fun h_2 => ?_)
  exact absurd (show InN 6 x0 ∧ lvl y = true from ⟨h_1, h_2⟩) hbad
set_option maxHeartbeats 4000000 in
set_option maxRecDepth 100000 in
theorem c_X0_wind_bad (l : Launch) (D : va_G) (h0 hn hd hq : Nat) (cZ cD cI : ClassId) (nb : Nat → Bool) (v : Nat → UInt64) (ln : Nat → Nat) (go : Bool) (mv : Int32) (hln : ∀ j, ln j ≤ 12) (hl0 : l.stackTraces = false) (x0 : Int32) (y : UInt32) (hbad : ¬ (InN 6 x0 ∧ wnd y = true)) : vx_Met l yX0_wind wsX0_wind ({ frames := 7, cells := 2, slots := 12, locals := 102 }) (va_Pc [.ref h0, .int x0, .float y] (fun U => xOK U ∧ va_P D vwCl (WB h0 hn hd hq cZ cD cI nb v ln go mv) U.heap ∧ va_K D vwCl (TY cZ cD cI) U)) (fun _ _ _ _ => False) (rd_X (fun E => E = IAE)) 2 12 (fun _ => False) := by
  refine vx_ofW (cc := cX0_wind) (maxL := 3) (ret := some .int) (by decide) rfl ?_
  intro p e s m args below meth c s₁ B hml hno hv
  obtain ⟨rfl, hX, hP, hK⟩ := hv
  have hx := B.exec
  have hb := B.bytes
  have hr := B.returns
  have hts := atoms_spec (ws := wsX0_wind) B.pre
  have hown : s.vm.findClass RX0 = some m.cls := findClass_of_methodNamed B.named
  have hlocks := B.notSynchronized
  have hl := lv_entry ([.ref h0, .int x0, .float y]) (n := 3) (Nat.le_of_ble_eq_true rfl)
  rw [lg_entry_eq]
  generalize (lg_sl ([.ref h0, .int x0, .float y]) ++ List.replicate (3 - (lg_sl ([.ref h0, .int x0, .float y])).length) Slot.unset).toArray = ls at hl ⊢
  have hl : lv_has ls 3 [(0, .ref h0), (1, .int x0), (2, .float y)] := hl
  refine lv_iload_n hx hb dX0_wind_0 rfl (lv_at hl 1 rfl) ?_
  refine kx_callv (vx_runS (As := [.int x0]) (rest := []) ⟨hx, hb, hml, hown, hts⟩ (c_X0_needGauge l hl0 x0 ) (va_cwS 1 hts gX0_wind_X0_needGauge rfl rfl rfl (by decide +kernel) ⟨Nat.le_of_ble_eq_true rfl, Nat.le_of_ble_eq_true rfl⟩) ⟨fun a U g mk q => ⟨q.1, xOK_call q.2 g mk a⟩, fun U hU hW => ⟨rfl, xOK_at hX hU hW⟩⟩ rfl rfl hl.1 rfl (lv_room (Nat.le_of_ble_eq_true rfl)) dX0_wind_1 ⟨Nat.le_of_ble_eq_true rfl, Nat.le_of_ble_eq_true rfl⟩) hno hlocks (fun E hE => hE.1) (Nat.le_of_ble_eq_true rfl) (Nat.le_of_ble_eq_true rfl) (fun h_1 => ?_)
  refine lv_fload_n hx hb dX0_wind_4 rfl (lv_at hl 2 rfl) ?_
  refine kx_callv (vx_runS (As := [.float y]) (rest := []) ⟨hx, hb, hml, hown, hts⟩ (c_X0_needWind l hl0 y ) (va_cwS 1 hts gX0_wind_X0_needWind rfl rfl rfl (by decide +kernel) ⟨Nat.le_of_ble_eq_true rfl, Nat.le_of_ble_eq_true rfl⟩) ⟨fun a U g mk q => ⟨q.1, xOK_call q.2 g mk a⟩, fun U hU hW => ⟨rfl, xOK_at hX hU hW⟩⟩ rfl rfl hl.1 rfl (lv_room (Nat.le_of_ble_eq_true rfl)) dX0_wind_5 ⟨Nat.le_of_ble_eq_true rfl, Nat.le_of_ble_eq_true rfl⟩) hno hlocks (fun E hE => hE.1) (Nat.le_of_ble_eq_true rfl) (Nat.le_of_ble_eq_true rfl) (fun h_2 => ?_)
  exact absurd (show InN 6 x0 ∧ wnd y = true from ⟨h_1, h_2⟩) hbad
set_option maxHeartbeats 4000000 in
set_option maxRecDepth 100000 in
theorem c_X0_out_bad (l : Launch) (D : va_G) (h0 hn hd hq : Nat) (cZ cD cI : ClassId) (nb : Nat → Bool) (v : Nat → UInt64) (ln : Nat → Nat) (go : Bool) (mv : Int32) (hln : ∀ j, ln j ≤ 12) (hl0 : l.stackTraces = false) (x0 : Int32) (x1 : Int32) (hbad : ¬ (InN 6 x0 ∧ InN 2 x1)) : vx_Met l yX0_out wsX0_out ({ frames := 7, cells := 2, slots := 12, locals := 102 }) (va_Pc [.ref h0, .int x0, .int x1] (fun U => xOK U ∧ va_P D vwCl (WB h0 hn hd hq cZ cD cI nb v ln go mv) U.heap ∧ va_K D vwCl (TY cZ cD cI) U)) (fun _ _ _ _ => False) (rd_X (fun E => E = IAE)) 2 12 (fun _ => False) := by
  refine vx_ofW (cc := cX0_out) (maxL := 3) (ret := some .int) (by decide) rfl ?_
  intro p e s m args below meth c s₁ B hml hno hv
  obtain ⟨rfl, hX, hP, hK⟩ := hv
  have hx := B.exec
  have hb := B.bytes
  have hr := B.returns
  have hts := atoms_spec (ws := wsX0_out) B.pre
  have hown : s.vm.findClass RX0 = some m.cls := findClass_of_methodNamed B.named
  have hlocks := B.notSynchronized
  have hl := lv_entry ([.ref h0, .int x0, .int x1]) (n := 3) (Nat.le_of_ble_eq_true rfl)
  rw [lg_entry_eq]
  generalize (lg_sl ([.ref h0, .int x0, .int x1]) ++ List.replicate (3 - (lg_sl ([.ref h0, .int x0, .int x1])).length) Slot.unset).toArray = ls at hl ⊢
  have hl : lv_has ls 3 [(0, .ref h0), (1, .int x0), (2, .int x1)] := hl
  refine lv_iload_n hx hb dX0_out_0 rfl (lv_at hl 1 rfl) ?_
  refine kx_callv (vx_runS (As := [.int x0]) (rest := []) ⟨hx, hb, hml, hown, hts⟩ (c_X0_needGauge l hl0 x0 ) (va_cwS 1 hts gX0_out_X0_needGauge rfl rfl rfl (by decide +kernel) ⟨Nat.le_of_ble_eq_true rfl, Nat.le_of_ble_eq_true rfl⟩) ⟨fun a U g mk q => ⟨q.1, xOK_call q.2 g mk a⟩, fun U hU hW => ⟨rfl, xOK_at hX hU hW⟩⟩ rfl rfl hl.1 rfl (lv_room (Nat.le_of_ble_eq_true rfl)) dX0_out_1 ⟨Nat.le_of_ble_eq_true rfl, Nat.le_of_ble_eq_true rfl⟩) hno hlocks (fun E hE => hE.1) (Nat.le_of_ble_eq_true rfl) (Nat.le_of_ble_eq_true rfl) (fun h_1 => ?_)
  refine lv_iload_n hx hb dX0_out_4 rfl (lv_at hl 2 rfl) ?_
  refine kx_callv (vx_runS (As := [.int x1]) (rest := []) ⟨hx, hb, hml, hown, hts⟩ (c_X0_needWhat l hl0 x1 ) (va_cwS 1 hts gX0_out_X0_needWhat rfl rfl rfl (by decide +kernel) ⟨Nat.le_of_ble_eq_true rfl, Nat.le_of_ble_eq_true rfl⟩) ⟨fun a U g mk q => ⟨q.1, xOK_call q.2 g mk a⟩, fun U hU hW => ⟨rfl, xOK_at hX hU hW⟩⟩ rfl rfl hl.1 rfl (lv_room (Nat.le_of_ble_eq_true rfl)) dX0_out_5 ⟨Nat.le_of_ble_eq_true rfl, Nat.le_of_ble_eq_true rfl⟩) hno hlocks (fun E hE => hE.1) (Nat.le_of_ble_eq_true rfl) (Nat.le_of_ble_eq_true rfl) (fun h_2 => ?_)
  exact absurd (show InN 6 x0 ∧ InN 2 x1 from ⟨h_1, h_2⟩) hbad
set_option maxHeartbeats 4000000 in
set_option maxRecDepth 100000 in
theorem c_X0_clear_bad (l : Launch) (D : va_G) (h0 hn hd hq : Nat) (cZ cD cI : ClassId) (nb : Nat → Bool) (v : Nat → UInt64) (ln : Nat → Nat) (go : Bool) (mv : Int32) (hln : ∀ j, ln j ≤ 12) (hl0 : l.stackTraces = false) (x0 : Int32) (hbad : ¬ (InN 6 x0)) : vx_Met l yX0_clear wsX0_clear ({ frames := 7, cells := 1, slots := 6, locals := 102 }) (va_Pc [.ref h0, .int x0] (fun U => xOK U ∧ va_P D vwCl (WB h0 hn hd hq cZ cD cI nb v ln go mv) U.heap ∧ va_K D vwCl (TY cZ cD cI) U)) (fun _ _ _ _ => False) (rd_X (fun E => E = IAE)) 1 6 (fun _ => False) := by
  refine vx_ofW (cc := cX0_clear) (maxL := 2) (ret := some .int) (by decide) rfl ?_
  intro p e s m args below meth c s₁ B hml hno hv
  obtain ⟨rfl, hX, hP, hK⟩ := hv
  have hx := B.exec
  have hb := B.bytes
  have hr := B.returns
  have hts := atoms_spec (ws := wsX0_clear) B.pre
  have hown : s.vm.findClass RX0 = some m.cls := findClass_of_methodNamed B.named
  have hlocks := B.notSynchronized
  have hl := lv_entry ([.ref h0, .int x0]) (n := 2) (Nat.le_of_ble_eq_true rfl)
  rw [lg_entry_eq]
  generalize (lg_sl ([.ref h0, .int x0]) ++ List.replicate (2 - (lg_sl ([.ref h0, .int x0])).length) Slot.unset).toArray = ls at hl ⊢
  have hl : lv_has ls 2 [(0, .ref h0), (1, .int x0)] := hl
  refine lv_iload_n hx hb dX0_clear_0 rfl (lv_at hl 1 rfl) ?_
  refine kx_callv (vx_runS (As := [.int x0]) (rest := []) ⟨hx, hb, hml, hown, hts⟩ (c_X0_needGauge l hl0 x0 ) (va_cwS 1 hts gX0_clear_X0_needGauge rfl rfl rfl (by decide +kernel) ⟨Nat.le_of_ble_eq_true rfl, Nat.le_of_ble_eq_true rfl⟩) ⟨fun a U g mk q => ⟨q.1, xOK_call q.2 g mk a⟩, fun U hU hW => ⟨rfl, xOK_at hX hU hW⟩⟩ rfl rfl hl.1 rfl (lv_room (Nat.le_of_ble_eq_true rfl)) dX0_clear_1 ⟨Nat.le_of_ble_eq_true rfl, Nat.le_of_ble_eq_true rfl⟩) hno hlocks (fun E hE => hE.1) (Nat.le_of_ble_eq_true rfl) (Nat.le_of_ble_eq_true rfl) (fun h_1 => ?_)
  exact absurd (show InN 6 x0 from h_1) hbad
set_option maxHeartbeats 4000000 in
set_option maxRecDepth 100000 in
theorem c_X0_mark_bad (l : Launch) (D : va_G) (h0 hn hd hq : Nat) (cZ cD cI : ClassId) (nb : Nat → Bool) (v : Nat → UInt64) (ln : Nat → Nat) (go : Bool) (mv : Int32) (hln : ∀ j, ln j ≤ 12) (hl0 : l.stackTraces = false) (x0 : Int32) (x1 : Int32) (y : UInt64) (hbad : ¬ (InN 6 x0 ∧ InN 2 x1 ∧ lvl y = true)) : vx_Met l yX0_mark wsX0_mark ({ frames := 7, cells := 2, slots := 12, locals := 103 }) (va_Pc [.ref h0, .int x0, .int x1, .double y] (fun U => xOK U ∧ va_P D vwCl (WB h0 hn hd hq cZ cD cI nb v ln go mv) U.heap ∧ va_K D vwCl (TY cZ cD cI) U)) (fun _ _ _ _ => False) (rd_X (fun E => E = IAE)) 2 12 (fun _ => False) := by
  refine vx_ofW (cc := cX0_mark) (maxL := 5) (ret := some .boolean) (by decide) rfl ?_
  intro p e s m args below meth c s₁ B hml hno hv
  obtain ⟨rfl, hX, hP, hK⟩ := hv
  have hx := B.exec
  have hb := B.bytes
  have hr := B.returns
  have hts := atoms_spec (ws := wsX0_mark) B.pre
  have hown : s.vm.findClass RX0 = some m.cls := findClass_of_methodNamed B.named
  have hlocks := B.notSynchronized
  have hl := lv_entry ([.ref h0, .int x0, .int x1, .double y]) (n := 5) (Nat.le_of_ble_eq_true rfl)
  rw [lg_entry_eq]
  generalize (lg_sl ([.ref h0, .int x0, .int x1, .double y]) ++ List.replicate (5 - (lg_sl ([.ref h0, .int x0, .int x1, .double y])).length) Slot.unset).toArray = ls at hl ⊢
  have hl : lv_has ls 5 [(0, .ref h0), (1, .int x0), (2, .int x1), (3, .double y)] := hl
  refine lv_iload_n hx hb dX0_mark_0 rfl (lv_at hl 1 rfl) ?_
  refine kx_callv (vx_runS (As := [.int x0]) (rest := []) ⟨hx, hb, hml, hown, hts⟩ (c_X0_needGauge l hl0 x0 ) (va_cwS 1 hts gX0_mark_X0_needGauge rfl rfl rfl (by decide +kernel) ⟨Nat.le_of_ble_eq_true rfl, Nat.le_of_ble_eq_true rfl⟩) ⟨fun a U g mk q => ⟨q.1, xOK_call q.2 g mk a⟩, fun U hU hW => ⟨rfl, xOK_at hX hU hW⟩⟩ rfl rfl hl.1 rfl (lv_room (Nat.le_of_ble_eq_true rfl)) dX0_mark_1 ⟨Nat.le_of_ble_eq_true rfl, Nat.le_of_ble_eq_true rfl⟩) hno hlocks (fun E hE => hE.1) (Nat.le_of_ble_eq_true rfl) (Nat.le_of_ble_eq_true rfl) (fun h_1 => ?_)
  refine lv_iload_n hx hb dX0_mark_4 rfl (lv_at hl 2 rfl) ?_
  refine lv_if_eq (tgt := 23) hx hb dX0_mark_5 (by decide) (fun c_2 => ?_) (fun c_2 => ?_)
  · refine lv_dload_n hx hb dX0_mark_23 rfl (lv_at hl 3 rfl) ?_
    refine kx_callv (vx_runS (As := [.double y]) (rest := []) ⟨hx, hb, hml, hown, hts⟩ (c_X0_needLevel l hl0 y ) (va_cwS 1 hts gX0_mark_X0_needLevel rfl rfl rfl (by decide +kernel) ⟨Nat.le_of_ble_eq_true rfl, Nat.le_of_ble_eq_true rfl⟩) ⟨fun a U g mk q => ⟨q.1, xOK_call q.2 g mk a⟩, fun U hU hW => ⟨rfl, xOK_at hX hU hW⟩⟩ rfl rfl hl.1 rfl (lv_room (Nat.le_of_ble_eq_true rfl)) dX0_mark_24 ⟨Nat.le_of_ble_eq_true rfl, Nat.le_of_ble_eq_true rfl⟩) hno hlocks (fun E hE => hE.1) (Nat.le_of_ble_eq_true rfl) (Nat.le_of_ble_eq_true rfl) (fun h_3 => ?_)
    exact absurd (show InN 6 x0 ∧ InN 2 x1 ∧ lvl y = true from ⟨h_1, ⟨0, by decide, c_2⟩, h_3⟩) hbad
  · refine lv_iload_n hx hb dX0_mark_8 rfl (lv_at hl 2 rfl) ?_
    refine lv_iconst (v := nI 1) hx hb dX0_mark_9 (by decide) ?_
    refine lv_icmp_eq (tgt := 23) hx hb dX0_mark_10 (by decide) (fun c_4 => ?_) (fun c_4 => ?_)
    · refine lv_dload_n hx hb dX0_mark_23 rfl (lv_at hl 3 rfl) ?_
      refine kx_callv (vx_runS (As := [.double y]) (rest := []) ⟨hx, hb, hml, hown, hts⟩ (c_X0_needLevel l hl0 y ) (va_cwS 1 hts gX0_mark_X0_needLevel rfl rfl rfl (by decide +kernel) ⟨Nat.le_of_ble_eq_true rfl, Nat.le_of_ble_eq_true rfl⟩) ⟨fun a U g mk q => ⟨q.1, xOK_call q.2 g mk a⟩, fun U hU hW => ⟨rfl, xOK_at hX hU hW⟩⟩ rfl rfl hl.1 rfl (lv_room (Nat.le_of_ble_eq_true rfl)) dX0_mark_24 ⟨Nat.le_of_ble_eq_true rfl, Nat.le_of_ble_eq_true rfl⟩) hno hlocks (fun E hE => hE.1) (Nat.le_of_ble_eq_true rfl) (Nat.le_of_ble_eq_true rfl) (fun h_5 => ?_)
      exact absurd (show InN 6 x0 ∧ InN 2 x1 ∧ lvl y = true from ⟨h_1, ⟨1, by decide, c_4⟩, h_5⟩) hbad
    · exact th_S (l := l) hx hb hl0 hown (by decide +kernel) (hts (.classLink RX0 59 IAE) (by decide +kernel)) (hts (.initialized IAE) (by decide +kernel)) (xS_61 hX.2.1) (fun w h => hts w (List.mem_cons_of_mem _ (List.mem_append_right _ h))) xn_IAE hX.2.2.2.1 xg_IAE hX (by rw [hml]; exact hl.1) dX0_mark_13 dX0_mark_16 dX0_mark_17 dX0_mark_19 dX0_mark_22 hno (Nat.le_of_ble_eq_true rfl) (Nat.le_of_ble_eq_true rfl) (Nat.le_of_ble_eq_true rfl) (Nat.le_of_ble_eq_true rfl) hlocks (rfl) (Nat.le_of_ble_eq_true rfl) (Nat.le_of_ble_eq_true rfl)
set_option maxHeartbeats 4000000 in
set_option maxRecDepth 100000 in
theorem c_X0_gale_bad (l : Launch) (D : va_G) (h0 hn hd hq : Nat) (cZ cD cI : ClassId) (nb : Nat → Bool) (v : Nat → UInt64) (ln : Nat → Nat) (go : Bool) (mv : Int32) (hln : ∀ j, ln j ≤ 12) (hl0 : l.stackTraces = false) (x0 : Int32) (y : UInt32) (hbad : ¬ (InN 6 x0 ∧ wnd y = true)) : vx_Met l yX0_gale wsX0_gale ({ frames := 7, cells := 2, slots := 12, locals := 102 }) (va_Pc [.ref h0, .int x0, .float y] (fun U => xOK U ∧ va_P D vwCl (WB h0 hn hd hq cZ cD cI nb v ln go mv) U.heap ∧ va_K D vwCl (TY cZ cD cI) U)) (fun _ _ _ _ => False) (rd_X (fun E => E = IAE)) 2 12 (fun _ => False) := by
  refine vx_ofW (cc := cX0_gale) (maxL := 3) (ret := some .boolean) (by decide) rfl ?_
  intro p e s m args below meth c s₁ B hml hno hv
  obtain ⟨rfl, hX, hP, hK⟩ := hv
  have hx := B.exec
  have hb := B.bytes
  have hr := B.returns
  have hts := atoms_spec (ws := wsX0_gale) B.pre
  have hown : s.vm.findClass RX0 = some m.cls := findClass_of_methodNamed B.named
  have hlocks := B.notSynchronized
  have hl := lv_entry ([.ref h0, .int x0, .float y]) (n := 3) (Nat.le_of_ble_eq_true rfl)
  rw [lg_entry_eq]
  generalize (lg_sl ([.ref h0, .int x0, .float y]) ++ List.replicate (3 - (lg_sl ([.ref h0, .int x0, .float y])).length) Slot.unset).toArray = ls at hl ⊢
  have hl : lv_has ls 3 [(0, .ref h0), (1, .int x0), (2, .float y)] := hl
  refine lv_iload_n hx hb dX0_gale_0 rfl (lv_at hl 1 rfl) ?_
  refine kx_callv (vx_runS (As := [.int x0]) (rest := []) ⟨hx, hb, hml, hown, hts⟩ (c_X0_needGauge l hl0 x0 ) (va_cwS 1 hts gX0_gale_X0_needGauge rfl rfl rfl (by decide +kernel) ⟨Nat.le_of_ble_eq_true rfl, Nat.le_of_ble_eq_true rfl⟩) ⟨fun a U g mk q => ⟨q.1, xOK_call q.2 g mk a⟩, fun U hU hW => ⟨rfl, xOK_at hX hU hW⟩⟩ rfl rfl hl.1 rfl (lv_room (Nat.le_of_ble_eq_true rfl)) dX0_gale_1 ⟨Nat.le_of_ble_eq_true rfl, Nat.le_of_ble_eq_true rfl⟩) hno hlocks (fun E hE => hE.1) (Nat.le_of_ble_eq_true rfl) (Nat.le_of_ble_eq_true rfl) (fun h_1 => ?_)
  refine lv_fload_n hx hb dX0_gale_4 rfl (lv_at hl 2 rfl) ?_
  refine kx_callv (vx_runS (As := [.float y]) (rest := []) ⟨hx, hb, hml, hown, hts⟩ (c_X0_needWind l hl0 y ) (va_cwS 1 hts gX0_gale_X0_needWind rfl rfl rfl (by decide +kernel) ⟨Nat.le_of_ble_eq_true rfl, Nat.le_of_ble_eq_true rfl⟩) ⟨fun a U g mk q => ⟨q.1, xOK_call q.2 g mk a⟩, fun U hU hW => ⟨rfl, xOK_at hX hU hW⟩⟩ rfl rfl hl.1 rfl (lv_room (Nat.le_of_ble_eq_true rfl)) dX0_gale_5 ⟨Nat.le_of_ble_eq_true rfl, Nat.le_of_ble_eq_true rfl⟩) hno hlocks (fun E hE => hE.1) (Nat.le_of_ble_eq_true rfl) (Nat.le_of_ble_eq_true rfl) (fun h_2 => ?_)
  exact absurd (show InN 6 x0 ∧ wnd y = true from ⟨h_1, h_2⟩) hbad
set_option maxHeartbeats 4000000 in
set_option maxRecDepth 100000 in
theorem c_X0_lift_bad (l : Launch) (D : va_G) (h0 hn hd hq : Nat) (cZ cD cI : ClassId) (nb : Nat → Bool) (v : Nat → UInt64) (ln : Nat → Nat) (go : Bool) (mv : Int32) (hln : ∀ j, ln j ≤ 12) (hl0 : l.stackTraces = false) (x0 : Int32) (x1 : Int32) (hbad : ¬ (InN 6 x0 ∧ InN 3 x1)) : vx_Met l yX0_lift wsX0_lift ({ frames := 7, cells := 2, slots := 12, locals := 102 }) (va_Pc [.ref h0, .int x0, .int x1] (fun U => xOK U ∧ va_P D vwCl (WB h0 hn hd hq cZ cD cI nb v ln go mv) U.heap ∧ va_K D vwCl (TY cZ cD cI) U)) (fun _ _ _ _ => False) (rd_X (fun E => E = IAE)) 2 12 (fun _ => False) := by
  refine vx_ofW (cc := cX0_lift) (maxL := 3) (ret := some .boolean) (by decide) rfl ?_
  intro p e s m args below meth c s₁ B hml hno hv
  obtain ⟨rfl, hX, hP, hK⟩ := hv
  have hx := B.exec
  have hb := B.bytes
  have hr := B.returns
  have hts := atoms_spec (ws := wsX0_lift) B.pre
  have hown : s.vm.findClass RX0 = some m.cls := findClass_of_methodNamed B.named
  have hlocks := B.notSynchronized
  have hl := lv_entry ([.ref h0, .int x0, .int x1]) (n := 3) (Nat.le_of_ble_eq_true rfl)
  rw [lg_entry_eq]
  generalize (lg_sl ([.ref h0, .int x0, .int x1]) ++ List.replicate (3 - (lg_sl ([.ref h0, .int x0, .int x1])).length) Slot.unset).toArray = ls at hl ⊢
  have hl : lv_has ls 3 [(0, .ref h0), (1, .int x0), (2, .int x1)] := hl
  refine lv_iload_n hx hb dX0_lift_0 rfl (lv_at hl 1 rfl) ?_
  refine kx_callv (vx_runS (As := [.int x0]) (rest := []) ⟨hx, hb, hml, hown, hts⟩ (c_X0_needGauge l hl0 x0 ) (va_cwS 1 hts gX0_lift_X0_needGauge rfl rfl rfl (by decide +kernel) ⟨Nat.le_of_ble_eq_true rfl, Nat.le_of_ble_eq_true rfl⟩) ⟨fun a U g mk q => ⟨q.1, xOK_call q.2 g mk a⟩, fun U hU hW => ⟨rfl, xOK_at hX hU hW⟩⟩ rfl rfl hl.1 rfl (lv_room (Nat.le_of_ble_eq_true rfl)) dX0_lift_1 ⟨Nat.le_of_ble_eq_true rfl, Nat.le_of_ble_eq_true rfl⟩) hno hlocks (fun E hE => hE.1) (Nat.le_of_ble_eq_true rfl) (Nat.le_of_ble_eq_true rfl) (fun h_1 => ?_)
  refine lv_iload_n hx hb dX0_lift_4 rfl (lv_at hl 2 rfl) ?_
  refine lv_if_lt (tgt := 13) hx hb dX0_lift_5 (by decide) (fun c_2 => ?_) (fun c_2 => ?_)
  · exact th_S (l := l) hx hb hl0 hown (by decide +kernel) (hts (.classLink RX0 59 IAE) (by decide +kernel)) (hts (.initialized IAE) (by decide +kernel)) (xS_73 hX.2.1) (fun w h => hts w (List.mem_cons_of_mem _ (List.mem_append_right _ h))) xn_IAE hX.2.2.2.1 xg_IAE hX (by rw [hml]; exact hl.1) dX0_lift_13 dX0_lift_16 dX0_lift_17 dX0_lift_19 dX0_lift_22 hno (Nat.le_of_ble_eq_true rfl) (Nat.le_of_ble_eq_true rfl) (Nat.le_of_ble_eq_true rfl) (Nat.le_of_ble_eq_true rfl) hlocks (rfl) (Nat.le_of_ble_eq_true rfl) (Nat.le_of_ble_eq_true rfl)
  · refine lv_iload_n hx hb dX0_lift_8 rfl (lv_at hl 2 rfl) ?_
    refine lv_iconst (v := nI 3) hx hb dX0_lift_9 (by decide) ?_
    refine lv_icmp_lt (tgt := 23) hx hb dX0_lift_10 (by decide) (fun c_3 => ?_) (fun c_3 => ?_)
    · exact absurd (show InN 6 x0 ∧ InN 3 x1 from ⟨h_1, in_of (by decide) c_2 c_3⟩) hbad
    · exact th_S (l := l) hx hb hl0 hown (by decide +kernel) (hts (.classLink RX0 59 IAE) (by decide +kernel)) (hts (.initialized IAE) (by decide +kernel)) (xS_73 hX.2.1) (fun w h => hts w (List.mem_cons_of_mem _ (List.mem_append_right _ h))) xn_IAE hX.2.2.2.1 xg_IAE hX (by rw [hml]; exact hl.1) dX0_lift_13 dX0_lift_16 dX0_lift_17 dX0_lift_19 dX0_lift_22 hno (Nat.le_of_ble_eq_true rfl) (Nat.le_of_ble_eq_true rfl) (Nat.le_of_ble_eq_true rfl) (Nat.le_of_ble_eq_true rfl) hlocks (rfl) (Nat.le_of_ble_eq_true rfl) (Nat.le_of_ble_eq_true rfl)
set_option maxHeartbeats 4000000 in
set_option maxRecDepth 100000 in
theorem c_X0_probe_bad (l : Launch) (D : va_G) (h0 hn hd hq : Nat) (cZ cD cI : ClassId) (nb : Nat → Bool) (v : Nat → UInt64) (ln : Nat → Nat) (go : Bool) (mv : Int32) (hln : ∀ j, ln j ≤ 12) (hl0 : l.stackTraces = false) (y : UInt64) (hbad : ¬ (lvl y = true)) : vx_Met l yX0_probe wsX0_probe ({ frames := 7, cells := 1, slots := 6, locals := 103 }) (va_Pc [.ref h0, .double y] (fun U => xOK U ∧ va_P D vwCl (WB h0 hn hd hq cZ cD cI nb v ln go mv) U.heap ∧ va_K D vwCl (TY cZ cD cI) U)) (fun _ _ _ _ => False) (rd_X (fun E => E = IAE)) 1 6 (fun _ => False) := by
  refine vx_ofW (cc := cX0_probe) (maxL := 3) (ret := some .int) (by decide) rfl ?_
  intro p e s m args below meth c s₁ B hml hno hv
  obtain ⟨rfl, hX, hP, hK⟩ := hv
  have hx := B.exec
  have hb := B.bytes
  have hr := B.returns
  have hts := atoms_spec (ws := wsX0_probe) B.pre
  have hown : s.vm.findClass RX0 = some m.cls := findClass_of_methodNamed B.named
  have hlocks := B.notSynchronized
  have hl := lv_entry ([.ref h0, .double y]) (n := 3) (Nat.le_of_ble_eq_true rfl)
  rw [lg_entry_eq]
  generalize (lg_sl ([.ref h0, .double y]) ++ List.replicate (3 - (lg_sl ([.ref h0, .double y])).length) Slot.unset).toArray = ls at hl ⊢
  have hl : lv_has ls 3 [(0, .ref h0), (1, .double y)] := hl
  refine lv_dload_n hx hb dX0_probe_0 rfl (lv_at hl 1 rfl) ?_
  refine kx_callv (vx_runS (As := [.double y]) (rest := []) ⟨hx, hb, hml, hown, hts⟩ (c_X0_needLevel l hl0 y ) (va_cwS 1 hts gX0_probe_X0_needLevel rfl rfl rfl (by decide +kernel) ⟨Nat.le_of_ble_eq_true rfl, Nat.le_of_ble_eq_true rfl⟩) ⟨fun a U g mk q => ⟨q.1, xOK_call q.2 g mk a⟩, fun U hU hW => ⟨rfl, xOK_at hX hU hW⟩⟩ rfl rfl hl.1 rfl (lv_room (Nat.le_of_ble_eq_true rfl)) dX0_probe_1 ⟨Nat.le_of_ble_eq_true rfl, Nat.le_of_ble_eq_true rfl⟩) hno hlocks (fun E hE => hE.1) (Nat.le_of_ble_eq_true rfl) (Nat.le_of_ble_eq_true rfl) (fun h_1 => ?_)
  exact absurd (show lvl y = true from h_1) hbad
set_option maxHeartbeats 4000000 in
set_option maxRecDepth 100000 in
theorem c_X0_probeWind_bad (l : Launch) (D : va_G) (h0 hn hd hq : Nat) (cZ cD cI : ClassId) (nb : Nat → Bool) (v : Nat → UInt64) (ln : Nat → Nat) (go : Bool) (mv : Int32) (hln : ∀ j, ln j ≤ 12) (hl0 : l.stackTraces = false) (y : UInt32) (hbad : ¬ (wnd y = true)) : vx_Met l yX0_probeWind wsX0_probeWind ({ frames := 7, cells := 1, slots := 6, locals := 102 }) (va_Pc [.ref h0, .float y] (fun U => xOK U ∧ va_P D vwCl (WB h0 hn hd hq cZ cD cI nb v ln go mv) U.heap ∧ va_K D vwCl (TY cZ cD cI) U)) (fun _ _ _ _ => False) (rd_X (fun E => E = IAE)) 1 6 (fun _ => False) := by
  refine vx_ofW (cc := cX0_probeWind) (maxL := 2) (ret := some .int) (by decide) rfl ?_
  intro p e s m args below meth c s₁ B hml hno hv
  obtain ⟨rfl, hX, hP, hK⟩ := hv
  have hx := B.exec
  have hb := B.bytes
  have hr := B.returns
  have hts := atoms_spec (ws := wsX0_probeWind) B.pre
  have hown : s.vm.findClass RX0 = some m.cls := findClass_of_methodNamed B.named
  have hlocks := B.notSynchronized
  have hl := lv_entry ([.ref h0, .float y]) (n := 2) (Nat.le_of_ble_eq_true rfl)
  rw [lg_entry_eq]
  generalize (lg_sl ([.ref h0, .float y]) ++ List.replicate (2 - (lg_sl ([.ref h0, .float y])).length) Slot.unset).toArray = ls at hl ⊢
  have hl : lv_has ls 2 [(0, .ref h0), (1, .float y)] := hl
  refine lv_fload_n hx hb dX0_probeWind_0 rfl (lv_at hl 1 rfl) ?_
  refine kx_callv (vx_runS (As := [.float y]) (rest := []) ⟨hx, hb, hml, hown, hts⟩ (c_X0_needWind l hl0 y ) (va_cwS 1 hts gX0_probeWind_X0_needWind rfl rfl rfl (by decide +kernel) ⟨Nat.le_of_ble_eq_true rfl, Nat.le_of_ble_eq_true rfl⟩) ⟨fun a U g mk q => ⟨q.1, xOK_call q.2 g mk a⟩, fun U hU hW => ⟨rfl, xOK_at hX hU hW⟩⟩ rfl rfl hl.1 rfl (lv_room (Nat.le_of_ble_eq_true rfl)) dX0_probeWind_1 ⟨Nat.le_of_ble_eq_true rfl, Nat.le_of_ble_eq_true rfl⟩) hno hlocks (fun E hE => hE.1) (Nat.le_of_ble_eq_true rfl) (Nat.le_of_ble_eq_true rfl) (fun h_1 => ?_)
  exact absurd (show wnd y = true from h_1) hbad
set_option maxHeartbeats 4000000 in
set_option maxRecDepth 100000 in
theorem c_X0_probeOut_bad (l : Launch) (D : va_G) (h0 hn hd hq : Nat) (cZ cD cI : ClassId) (nb : Nat → Bool) (v : Nat → UInt64) (ln : Nat → Nat) (go : Bool) (mv : Int32) (hln : ∀ j, ln j ≤ 12) (hl0 : l.stackTraces = false) (x0 : Int32) (hbad : ¬ (InN 2 x0)) : vx_Met l yX0_probeOut wsX0_probeOut ({ frames := 7, cells := 1, slots := 6, locals := 102 }) (va_Pc [.ref h0, .int x0] (fun U => xOK U ∧ va_P D vwCl (WB h0 hn hd hq cZ cD cI nb v ln go mv) U.heap ∧ va_K D vwCl (TY cZ cD cI) U)) (fun _ _ _ _ => False) (rd_X (fun E => E = IAE)) 1 6 (fun _ => False) := by
  refine vx_ofW (cc := cX0_probeOut) (maxL := 2) (ret := some .int) (by decide) rfl ?_
  intro p e s m args below meth c s₁ B hml hno hv
  obtain ⟨rfl, hX, hP, hK⟩ := hv
  have hx := B.exec
  have hb := B.bytes
  have hr := B.returns
  have hts := atoms_spec (ws := wsX0_probeOut) B.pre
  have hown : s.vm.findClass RX0 = some m.cls := findClass_of_methodNamed B.named
  have hlocks := B.notSynchronized
  have hl := lv_entry ([.ref h0, .int x0]) (n := 2) (Nat.le_of_ble_eq_true rfl)
  rw [lg_entry_eq]
  generalize (lg_sl ([.ref h0, .int x0]) ++ List.replicate (2 - (lg_sl ([.ref h0, .int x0])).length) Slot.unset).toArray = ls at hl ⊢
  have hl : lv_has ls 2 [(0, .ref h0), (1, .int x0)] := hl
  refine lv_iload_n hx hb dX0_probeOut_0 rfl (lv_at hl 1 rfl) ?_
  refine kx_callv (vx_runS (As := [.int x0]) (rest := []) ⟨hx, hb, hml, hown, hts⟩ (c_X0_needWhat l hl0 x0 ) (va_cwS 1 hts gX0_probeOut_X0_needWhat rfl rfl rfl (by decide +kernel) ⟨Nat.le_of_ble_eq_true rfl, Nat.le_of_ble_eq_true rfl⟩) ⟨fun a U g mk q => ⟨q.1, xOK_call q.2 g mk a⟩, fun U hU hW => ⟨rfl, xOK_at hX hU hW⟩⟩ rfl rfl hl.1 rfl (lv_room (Nat.le_of_ble_eq_true rfl)) dX0_probeOut_1 ⟨Nat.le_of_ble_eq_true rfl, Nat.le_of_ble_eq_true rfl⟩) hno hlocks (fun E hE => hE.1) (Nat.le_of_ble_eq_true rfl) (Nat.le_of_ble_eq_true rfl) (fun h_1 => ?_)
  exact absurd (show InN 2 x0 from h_1) hbad
set_option maxHeartbeats 4000000 in
set_option maxRecDepth 100000 in
theorem c_X0_run_bad (l : Launch) (D : va_G) (h0 hn hd hq : Nat) (cZ cD cI : ClassId) (nb : Nat → Bool) (v : Nat → UInt64) (ln : Nat → Nat) (go : Bool) (mv : Int32) (hln : ∀ j, ln j ≤ 12) (hl0 : l.stackTraces = false) (x0 : Int32) (x1 : Int32) (x2 : Int32) (b : Bool) (hbad : ¬ (InN 6 x0 ∧ InN 2 x1 ∧ InN 6 x2)) : vx_Met l yX0_run wsX0_run ({ frames := 7, cells := 3, slots := 18, locals := 102 }) (va_Pc [.ref h0, .int x0, .int x1, .int x2, .int (b2i b)] (fun U => xOK U ∧ va_P D vwCl (WB h0 hn hd hq cZ cD cI nb v ln go mv) U.heap ∧ va_K D vwCl (TY cZ cD cI) U)) (fun _ _ _ _ => False) (rd_X (fun E => E = IAE)) 3 18 (fun _ => False) := by
  refine vx_ofW (cc := cX0_run) (maxL := 7) (ret := some .int) (by decide) rfl ?_
  intro p e s m args below meth c s₁ B hml hno hv
  obtain ⟨rfl, hX, hP, hK⟩ := hv
  have hx := B.exec
  have hb := B.bytes
  have hr := B.returns
  have hts := atoms_spec (ws := wsX0_run) B.pre
  have hown : s.vm.findClass RX0 = some m.cls := findClass_of_methodNamed B.named
  have hlocks := B.notSynchronized
  have hl := lv_entry ([.ref h0, .int x0, .int x1, .int x2, .int (b2i b)]) (n := 7) (Nat.le_of_ble_eq_true rfl)
  rw [lg_entry_eq]
  generalize (lg_sl ([.ref h0, .int x0, .int x1, .int x2, .int (b2i b)]) ++ List.replicate (7 - (lg_sl ([.ref h0, .int x0, .int x1, .int x2, .int (b2i b)])).length) Slot.unset).toArray = ls at hl ⊢
  have hl : lv_has ls 7 [(0, .ref h0), (1, .int x0), (2, .int x1), (3, .int x2), (4, .int (b2i b))] := hl
  refine lv_iload_n hx hb dX0_run_0 rfl (lv_at hl 1 rfl) ?_
  refine kx_callv (vx_runS (As := [.int x0]) (rest := []) ⟨hx, hb, hml, hown, hts⟩ (c_X0_needGauge l hl0 x0 ) (va_cwS 1 hts gX0_run_X0_needGauge rfl rfl rfl (by decide +kernel) ⟨Nat.le_of_ble_eq_true rfl, Nat.le_of_ble_eq_true rfl⟩) ⟨fun a U g mk q => ⟨q.1, xOK_call q.2 g mk a⟩, fun U hU hW => ⟨rfl, xOK_at hX hU hW⟩⟩ rfl rfl hl.1 rfl (lv_room (Nat.le_of_ble_eq_true rfl)) dX0_run_1 ⟨Nat.le_of_ble_eq_true rfl, Nat.le_of_ble_eq_true rfl⟩) hno hlocks (fun E hE => hE.1) (Nat.le_of_ble_eq_true rfl) (Nat.le_of_ble_eq_true rfl) (fun h_1 => ?_)
  refine lv_iload_n hx hb dX0_run_4 rfl (lv_at hl 2 rfl) ?_
  refine kx_callv (vx_runS (As := [.int x1]) (rest := []) ⟨hx, hb, hml, hown, hts⟩ (c_X0_needWhat l hl0 x1 ) (va_cwS 1 hts gX0_run_X0_needWhat rfl rfl rfl (by decide +kernel) ⟨Nat.le_of_ble_eq_true rfl, Nat.le_of_ble_eq_true rfl⟩) ⟨fun a U g mk q => ⟨q.1, xOK_call q.2 g mk a⟩, fun U hU hW => ⟨rfl, xOK_at hX hU hW⟩⟩ rfl rfl hl.1 rfl (lv_room (Nat.le_of_ble_eq_true rfl)) dX0_run_5 ⟨Nat.le_of_ble_eq_true rfl, Nat.le_of_ble_eq_true rfl⟩) hno hlocks (fun E hE => hE.1) (Nat.le_of_ble_eq_true rfl) (Nat.le_of_ble_eq_true rfl) (fun h_2 => ?_)
  refine lv_iload_n hx hb dX0_run_8 rfl (lv_at hl 3 rfl) ?_
  refine kx_callv (vx_runS (As := [.int x2]) (rest := []) ⟨hx, hb, hml, hown, hts⟩ (c_X0_needRelation l hl0 x2 ) (va_cwS 1 hts gX0_run_X0_needRelation rfl rfl rfl (by decide +kernel) ⟨Nat.le_of_ble_eq_true rfl, Nat.le_of_ble_eq_true rfl⟩) ⟨fun a U g mk q => ⟨q.1, xOK_call q.2 g mk a⟩, fun U hU hW => ⟨rfl, xOK_at hX hU hW⟩⟩ rfl rfl hl.1 rfl (lv_room (Nat.le_of_ble_eq_true rfl)) dX0_run_9 ⟨Nat.le_of_ble_eq_true rfl, Nat.le_of_ble_eq_true rfl⟩) hno hlocks (fun E hE => hE.1) (Nat.le_of_ble_eq_true rfl) (Nat.le_of_ble_eq_true rfl) (fun h_3 => ?_)
  exact absurd (show InN 6 x0 ∧ InN 2 x1 ∧ InN 6 x2 from ⟨h_1, h_2, h_3⟩) hbad
set_option maxHeartbeats 4000000 in
set_option maxRecDepth 100000 in
theorem c_X0_count_bad (l : Launch) (D : va_G) (h0 hn hd hq : Nat) (cZ cD cI : ClassId) (nb : Nat → Bool) (v : Nat → UInt64) (ln : Nat → Nat) (go : Bool) (mv : Int32) (hln : ∀ j, ln j ≤ 12) (hl0 : l.stackTraces = false) (x0 : Int32) (x1 : Int32) (x2 : Int32) (b : Bool) (hbad : ¬ (InN 6 x0 ∧ InN 2 x1 ∧ InN 6 x2)) : vx_Met l yX0_count wsX0_count ({ frames := 7, cells := 3, slots := 18, locals := 102 }) (va_Pc [.ref h0, .int x0, .int x1, .int x2, .int (b2i b)] (fun U => xOK U ∧ va_P D vwCl (WB h0 hn hd hq cZ cD cI nb v ln go mv) U.heap ∧ va_K D vwCl (TY cZ cD cI) U)) (fun _ _ _ _ => False) (rd_X (fun E => E = IAE)) 3 18 (fun _ => False) := by
  refine vx_ofW (cc := cX0_count) (maxL := 8) (ret := some .int) (by decide) rfl ?_
  intro p e s m args below meth c s₁ B hml hno hv
  obtain ⟨rfl, hX, hP, hK⟩ := hv
  have hx := B.exec
  have hb := B.bytes
  have hr := B.returns
  have hts := atoms_spec (ws := wsX0_count) B.pre
  have hown : s.vm.findClass RX0 = some m.cls := findClass_of_methodNamed B.named
  have hlocks := B.notSynchronized
  have hl := lv_entry ([.ref h0, .int x0, .int x1, .int x2, .int (b2i b)]) (n := 8) (Nat.le_of_ble_eq_true rfl)
  rw [lg_entry_eq]
  generalize (lg_sl ([.ref h0, .int x0, .int x1, .int x2, .int (b2i b)]) ++ List.replicate (8 - (lg_sl ([.ref h0, .int x0, .int x1, .int x2, .int (b2i b)])).length) Slot.unset).toArray = ls at hl ⊢
  have hl : lv_has ls 8 [(0, .ref h0), (1, .int x0), (2, .int x1), (3, .int x2), (4, .int (b2i b))] := hl
  refine lv_iload_n hx hb dX0_count_0 rfl (lv_at hl 1 rfl) ?_
  refine kx_callv (vx_runS (As := [.int x0]) (rest := []) ⟨hx, hb, hml, hown, hts⟩ (c_X0_needGauge l hl0 x0 ) (va_cwS 1 hts gX0_count_X0_needGauge rfl rfl rfl (by decide +kernel) ⟨Nat.le_of_ble_eq_true rfl, Nat.le_of_ble_eq_true rfl⟩) ⟨fun a U g mk q => ⟨q.1, xOK_call q.2 g mk a⟩, fun U hU hW => ⟨rfl, xOK_at hX hU hW⟩⟩ rfl rfl hl.1 rfl (lv_room (Nat.le_of_ble_eq_true rfl)) dX0_count_1 ⟨Nat.le_of_ble_eq_true rfl, Nat.le_of_ble_eq_true rfl⟩) hno hlocks (fun E hE => hE.1) (Nat.le_of_ble_eq_true rfl) (Nat.le_of_ble_eq_true rfl) (fun h_1 => ?_)
  refine lv_iload_n hx hb dX0_count_4 rfl (lv_at hl 2 rfl) ?_
  refine kx_callv (vx_runS (As := [.int x1]) (rest := []) ⟨hx, hb, hml, hown, hts⟩ (c_X0_needWhat l hl0 x1 ) (va_cwS 1 hts gX0_count_X0_needWhat rfl rfl rfl (by decide +kernel) ⟨Nat.le_of_ble_eq_true rfl, Nat.le_of_ble_eq_true rfl⟩) ⟨fun a U g mk q => ⟨q.1, xOK_call q.2 g mk a⟩, fun U hU hW => ⟨rfl, xOK_at hX hU hW⟩⟩ rfl rfl hl.1 rfl (lv_room (Nat.le_of_ble_eq_true rfl)) dX0_count_5 ⟨Nat.le_of_ble_eq_true rfl, Nat.le_of_ble_eq_true rfl⟩) hno hlocks (fun E hE => hE.1) (Nat.le_of_ble_eq_true rfl) (Nat.le_of_ble_eq_true rfl) (fun h_2 => ?_)
  refine lv_iload_n hx hb dX0_count_8 rfl (lv_at hl 3 rfl) ?_
  refine kx_callv (vx_runS (As := [.int x2]) (rest := []) ⟨hx, hb, hml, hown, hts⟩ (c_X0_needRelation l hl0 x2 ) (va_cwS 1 hts gX0_count_X0_needRelation rfl rfl rfl (by decide +kernel) ⟨Nat.le_of_ble_eq_true rfl, Nat.le_of_ble_eq_true rfl⟩) ⟨fun a U g mk q => ⟨q.1, xOK_call q.2 g mk a⟩, fun U hU hW => ⟨rfl, xOK_at hX hU hW⟩⟩ rfl rfl hl.1 rfl (lv_room (Nat.le_of_ble_eq_true rfl)) dX0_count_9 ⟨Nat.le_of_ble_eq_true rfl, Nat.le_of_ble_eq_true rfl⟩) hno hlocks (fun E hE => hE.1) (Nat.le_of_ble_eq_true rfl) (Nat.le_of_ble_eq_true rfl) (fun h_3 => ?_)
  exact absurd (show InN 6 x0 ∧ InN 2 x1 ∧ InN 6 x2 from ⟨h_1, h_2, h_3⟩) hbad
set_option maxHeartbeats 4000000 in
set_option maxRecDepth 100000 in
theorem c_X0_holds_bad (l : Launch) (D : va_G) (h0 hn hd hq : Nat) (cZ cD cI : ClassId) (nb : Nat → Bool) (v : Nat → UInt64) (ln : Nat → Nat) (go : Bool) (mv : Int32) (hln : ∀ j, ln j ≤ 12) (hl0 : l.stackTraces = false) (x0 : Int32) (x1 : Int32) (x2 : Int32) (x3 : Int32) (hbad : ¬ (InN 6 x0 ∧ InN 6 x1 ∧ InN 2 x2 ∧ InN 6 x3)) : vx_Met l yX0_holds wsX0_holds ({ frames := 7, cells := 4, slots := 24, locals := 102 }) (va_Pc [.ref h0, .int x0, .int x1, .int x2, .int x3] (fun U => xOK U ∧ va_P D vwCl (WB h0 hn hd hq cZ cD cI nb v ln go mv) U.heap ∧ va_K D vwCl (TY cZ cD cI) U)) (fun _ _ _ _ => False) (rd_X (fun E => E = IAE)) 4 24 (fun _ => False) := by
  refine vx_ofW (cc := cX0_holds) (maxL := 5) (ret := some .boolean) (by decide) rfl ?_
  intro p e s m args below meth c s₁ B hml hno hv
  obtain ⟨rfl, hX, hP, hK⟩ := hv
  have hx := B.exec
  have hb := B.bytes
  have hr := B.returns
  have hts := atoms_spec (ws := wsX0_holds) B.pre
  have hown : s.vm.findClass RX0 = some m.cls := findClass_of_methodNamed B.named
  have hlocks := B.notSynchronized
  have hl := lv_entry ([.ref h0, .int x0, .int x1, .int x2, .int x3]) (n := 5) (Nat.le_of_ble_eq_true rfl)
  rw [lg_entry_eq]
  generalize (lg_sl ([.ref h0, .int x0, .int x1, .int x2, .int x3]) ++ List.replicate (5 - (lg_sl ([.ref h0, .int x0, .int x1, .int x2, .int x3])).length) Slot.unset).toArray = ls at hl ⊢
  have hl : lv_has ls 5 [(0, .ref h0), (1, .int x0), (2, .int x1), (3, .int x2), (4, .int x3)] := hl
  refine lv_iload_n hx hb dX0_holds_0 rfl (lv_at hl 1 rfl) ?_
  refine kx_callv (vx_runS (As := [.int x0]) (rest := []) ⟨hx, hb, hml, hown, hts⟩ (c_X0_needGauge l hl0 x0 ) (va_cwS 1 hts gX0_holds_X0_needGauge rfl rfl rfl (by decide +kernel) ⟨Nat.le_of_ble_eq_true rfl, Nat.le_of_ble_eq_true rfl⟩) ⟨fun a U g mk q => ⟨q.1, xOK_call q.2 g mk a⟩, fun U hU hW => ⟨rfl, xOK_at hX hU hW⟩⟩ rfl rfl hl.1 rfl (lv_room (Nat.le_of_ble_eq_true rfl)) dX0_holds_1 ⟨Nat.le_of_ble_eq_true rfl, Nat.le_of_ble_eq_true rfl⟩) hno hlocks (fun E hE => hE.1) (Nat.le_of_ble_eq_true rfl) (Nat.le_of_ble_eq_true rfl) (fun h_1 => ?_)
  refine lv_iload_n hx hb dX0_holds_4 rfl (lv_at hl 2 rfl) ?_
  refine kx_callv (vx_runS (As := [.int x1]) (rest := []) ⟨hx, hb, hml, hown, hts⟩ (c_X0_needGauge l hl0 x1 ) (va_cwS 1 hts gX0_holds_X0_needGauge rfl rfl rfl (by decide +kernel) ⟨Nat.le_of_ble_eq_true rfl, Nat.le_of_ble_eq_true rfl⟩) ⟨fun a U g mk q => ⟨q.1, xOK_call q.2 g mk a⟩, fun U hU hW => ⟨rfl, xOK_at hX hU hW⟩⟩ rfl rfl hl.1 rfl (lv_room (Nat.le_of_ble_eq_true rfl)) dX0_holds_5 ⟨Nat.le_of_ble_eq_true rfl, Nat.le_of_ble_eq_true rfl⟩) hno hlocks (fun E hE => hE.1) (Nat.le_of_ble_eq_true rfl) (Nat.le_of_ble_eq_true rfl) (fun h_2 => ?_)
  refine lv_iload_n hx hb dX0_holds_8 rfl (lv_at hl 3 rfl) ?_
  refine kx_callv (vx_runS (As := [.int x2]) (rest := []) ⟨hx, hb, hml, hown, hts⟩ (c_X0_needWhat l hl0 x2 ) (va_cwS 1 hts gX0_holds_X0_needWhat rfl rfl rfl (by decide +kernel) ⟨Nat.le_of_ble_eq_true rfl, Nat.le_of_ble_eq_true rfl⟩) ⟨fun a U g mk q => ⟨q.1, xOK_call q.2 g mk a⟩, fun U hU hW => ⟨rfl, xOK_at hX hU hW⟩⟩ rfl rfl hl.1 rfl (lv_room (Nat.le_of_ble_eq_true rfl)) dX0_holds_9 ⟨Nat.le_of_ble_eq_true rfl, Nat.le_of_ble_eq_true rfl⟩) hno hlocks (fun E hE => hE.1) (Nat.le_of_ble_eq_true rfl) (Nat.le_of_ble_eq_true rfl) (fun h_3 => ?_)
  refine lv_iload hx hb dX0_holds_12 (lv_at hl 4 rfl) ?_
  refine kx_callv (vx_runS (As := [.int x3]) (rest := []) ⟨hx, hb, hml, hown, hts⟩ (c_X0_needRelation l hl0 x3 ) (va_cwS 1 hts gX0_holds_X0_needRelation rfl rfl rfl (by decide +kernel) ⟨Nat.le_of_ble_eq_true rfl, Nat.le_of_ble_eq_true rfl⟩) ⟨fun a U g mk q => ⟨q.1, xOK_call q.2 g mk a⟩, fun U hU hW => ⟨rfl, xOK_at hX hU hW⟩⟩ rfl rfl hl.1 rfl (lv_room (Nat.le_of_ble_eq_true rfl)) dX0_holds_14 ⟨Nat.le_of_ble_eq_true rfl, Nat.le_of_ble_eq_true rfl⟩) hno hlocks (fun E hE => hE.1) (Nat.le_of_ble_eq_true rfl) (Nat.le_of_ble_eq_true rfl) (fun h_4 => ?_)
  exact absurd (show InN 6 x0 ∧ InN 6 x1 ∧ InN 2 x2 ∧ InN 6 x3 from ⟨h_1, h_2, h_3, h_4⟩) hbad
set_option maxHeartbeats 4000000 in
set_option maxRecDepth 100000 in
theorem c_X0_pick_bad (l : Launch) (D : va_G) (h0 hn hd hq : Nat) (cZ cD cI : ClassId) (nb : Nat → Bool) (v : Nat → UInt64) (ln : Nat → Nat) (go : Bool) (mv : Int32) (hln : ∀ j, ln j ≤ 12) (hl0 : l.stackTraces = false) (x0 : Int32) (x1 : Int32) (x2 : Int32) (x3 : Int32) (hbad : ¬ (InN 6 x0 ∧ InN 6 x1 ∧ InN 2 x2 ∧ InN 6 x3)) : vx_Met l yX0_pick wsX0_pick ({ frames := 7, cells := 4, slots := 24, locals := 102 }) (va_Pc [.ref h0, .int x0, .int x1, .int x2, .int x3] (fun U => xOK U ∧ va_P D vwCl (WB h0 hn hd hq cZ cD cI nb v ln go mv) U.heap ∧ va_K D vwCl (TY cZ cD cI) U)) (fun _ _ _ _ => False) (rd_X (fun E => E = IAE)) 4 24 (fun _ => False) := by
  refine vx_ofW (cc := cX0_pick) (maxL := 7) (ret := some .int) (by decide) rfl ?_
  intro p e s m args below meth c s₁ B hml hno hv
  obtain ⟨rfl, hX, hP, hK⟩ := hv
  have hx := B.exec
  have hb := B.bytes
  have hr := B.returns
  have hts := atoms_spec (ws := wsX0_pick) B.pre
  have hown : s.vm.findClass RX0 = some m.cls := findClass_of_methodNamed B.named
  have hlocks := B.notSynchronized
  have hl := lv_entry ([.ref h0, .int x0, .int x1, .int x2, .int x3]) (n := 7) (Nat.le_of_ble_eq_true rfl)
  rw [lg_entry_eq]
  generalize (lg_sl ([.ref h0, .int x0, .int x1, .int x2, .int x3]) ++ List.replicate (7 - (lg_sl ([.ref h0, .int x0, .int x1, .int x2, .int x3])).length) Slot.unset).toArray = ls at hl ⊢
  have hl : lv_has ls 7 [(0, .ref h0), (1, .int x0), (2, .int x1), (3, .int x2), (4, .int x3)] := hl
  refine lv_iload_n hx hb dX0_pick_0 rfl (lv_at hl 1 rfl) ?_
  refine kx_callv (vx_runS (As := [.int x0]) (rest := []) ⟨hx, hb, hml, hown, hts⟩ (c_X0_needGauge l hl0 x0 ) (va_cwS 1 hts gX0_pick_X0_needGauge rfl rfl rfl (by decide +kernel) ⟨Nat.le_of_ble_eq_true rfl, Nat.le_of_ble_eq_true rfl⟩) ⟨fun a U g mk q => ⟨q.1, xOK_call q.2 g mk a⟩, fun U hU hW => ⟨rfl, xOK_at hX hU hW⟩⟩ rfl rfl hl.1 rfl (lv_room (Nat.le_of_ble_eq_true rfl)) dX0_pick_1 ⟨Nat.le_of_ble_eq_true rfl, Nat.le_of_ble_eq_true rfl⟩) hno hlocks (fun E hE => hE.1) (Nat.le_of_ble_eq_true rfl) (Nat.le_of_ble_eq_true rfl) (fun h_1 => ?_)
  refine lv_iload_n hx hb dX0_pick_4 rfl (lv_at hl 2 rfl) ?_
  refine kx_callv (vx_runS (As := [.int x1]) (rest := []) ⟨hx, hb, hml, hown, hts⟩ (c_X0_needGauge l hl0 x1 ) (va_cwS 1 hts gX0_pick_X0_needGauge rfl rfl rfl (by decide +kernel) ⟨Nat.le_of_ble_eq_true rfl, Nat.le_of_ble_eq_true rfl⟩) ⟨fun a U g mk q => ⟨q.1, xOK_call q.2 g mk a⟩, fun U hU hW => ⟨rfl, xOK_at hX hU hW⟩⟩ rfl rfl hl.1 rfl (lv_room (Nat.le_of_ble_eq_true rfl)) dX0_pick_5 ⟨Nat.le_of_ble_eq_true rfl, Nat.le_of_ble_eq_true rfl⟩) hno hlocks (fun E hE => hE.1) (Nat.le_of_ble_eq_true rfl) (Nat.le_of_ble_eq_true rfl) (fun h_2 => ?_)
  refine lv_iload_n hx hb dX0_pick_8 rfl (lv_at hl 3 rfl) ?_
  refine kx_callv (vx_runS (As := [.int x2]) (rest := []) ⟨hx, hb, hml, hown, hts⟩ (c_X0_needWhat l hl0 x2 ) (va_cwS 1 hts gX0_pick_X0_needWhat rfl rfl rfl (by decide +kernel) ⟨Nat.le_of_ble_eq_true rfl, Nat.le_of_ble_eq_true rfl⟩) ⟨fun a U g mk q => ⟨q.1, xOK_call q.2 g mk a⟩, fun U hU hW => ⟨rfl, xOK_at hX hU hW⟩⟩ rfl rfl hl.1 rfl (lv_room (Nat.le_of_ble_eq_true rfl)) dX0_pick_9 ⟨Nat.le_of_ble_eq_true rfl, Nat.le_of_ble_eq_true rfl⟩) hno hlocks (fun E hE => hE.1) (Nat.le_of_ble_eq_true rfl) (Nat.le_of_ble_eq_true rfl) (fun h_3 => ?_)
  refine lv_iload hx hb dX0_pick_12 (lv_at hl 4 rfl) ?_
  refine kx_callv (vx_runS (As := [.int x3]) (rest := []) ⟨hx, hb, hml, hown, hts⟩ (c_X0_needRelation l hl0 x3 ) (va_cwS 1 hts gX0_pick_X0_needRelation rfl rfl rfl (by decide +kernel) ⟨Nat.le_of_ble_eq_true rfl, Nat.le_of_ble_eq_true rfl⟩) ⟨fun a U g mk q => ⟨q.1, xOK_call q.2 g mk a⟩, fun U hU hW => ⟨rfl, xOK_at hX hU hW⟩⟩ rfl rfl hl.1 rfl (lv_room (Nat.le_of_ble_eq_true rfl)) dX0_pick_14 ⟨Nat.le_of_ble_eq_true rfl, Nat.le_of_ble_eq_true rfl⟩) hno hlocks (fun E hE => hE.1) (Nat.le_of_ble_eq_true rfl) (Nat.le_of_ble_eq_true rfl) (fun h_4 => ?_)
  exact absurd (show InN 6 x0 ∧ InN 6 x1 ∧ InN 2 x2 ∧ InN 6 x3 from ⟨h_1, h_2, h_3, h_4⟩) hbad
set_option maxHeartbeats 4000000 in
set_option maxRecDepth 100000 in
theorem c_X0_stand_bad (l : Launch) (D : va_G) (h0 hn hd hq : Nat) (cZ cD cI : ClassId) (nb : Nat → Bool) (v : Nat → UInt64) (ln : Nat → Nat) (go : Bool) (mv : Int32) (hln : ∀ j, ln j ≤ 12) (hl0 : l.stackTraces = false) (x0 : Int32) (hbad : ¬ (InN 6 x0)) : vx_Met l yX0_stand wsX0_stand ({ frames := 7, cells := 1, slots := 6, locals := 102 }) (va_Pc [.ref h0, .int x0] (fun U => xOK U ∧ va_P D vwCl (WB h0 hn hd hq cZ cD cI nb v ln go mv) U.heap ∧ va_K D vwCl (TY cZ cD cI) U)) (fun _ _ _ _ => False) (rd_X (fun E => E = IAE)) 1 6 (fun _ => False) := by
  refine vx_ofW (cc := cX0_stand) (maxL := 2) (ret := some .int) (by decide) rfl ?_
  intro p e s m args below meth c s₁ B hml hno hv
  obtain ⟨rfl, hX, hP, hK⟩ := hv
  have hx := B.exec
  have hb := B.bytes
  have hr := B.returns
  have hts := atoms_spec (ws := wsX0_stand) B.pre
  have hown : s.vm.findClass RX0 = some m.cls := findClass_of_methodNamed B.named
  have hlocks := B.notSynchronized
  have hl := lv_entry ([.ref h0, .int x0]) (n := 2) (Nat.le_of_ble_eq_true rfl)
  rw [lg_entry_eq]
  generalize (lg_sl ([.ref h0, .int x0]) ++ List.replicate (2 - (lg_sl ([.ref h0, .int x0])).length) Slot.unset).toArray = ls at hl ⊢
  have hl : lv_has ls 2 [(0, .ref h0), (1, .int x0)] := hl
  refine lv_iload_n hx hb dX0_stand_0 rfl (lv_at hl 1 rfl) ?_
  refine kx_callv (vx_runS (As := [.int x0]) (rest := []) ⟨hx, hb, hml, hown, hts⟩ (c_X0_needGauge l hl0 x0 ) (va_cwS 1 hts gX0_stand_X0_needGauge rfl rfl rfl (by decide +kernel) ⟨Nat.le_of_ble_eq_true rfl, Nat.le_of_ble_eq_true rfl⟩) ⟨fun a U g mk q => ⟨q.1, xOK_call q.2 g mk a⟩, fun U hU hW => ⟨rfl, xOK_at hX hU hW⟩⟩ rfl rfl hl.1 rfl (lv_room (Nat.le_of_ble_eq_true rfl)) dX0_stand_1 ⟨Nat.le_of_ble_eq_true rfl, Nat.le_of_ble_eq_true rfl⟩) hno hlocks (fun E hE => hE.1) (Nat.le_of_ble_eq_true rfl) (Nat.le_of_ble_eq_true rfl) (fun h_1 => ?_)
  exact absurd (show InN 6 x0 from h_1) hbad
set_option maxHeartbeats 4000000 in
set_option maxRecDepth 100000 in
theorem c_X0_order_bad (l : Launch) (D : va_G) (h0 hn hd hq : Nat) (cZ cD cI : ClassId) (nb : Nat → Bool) (v : Nat → UInt64) (ln : Nat → Nat) (go : Bool) (mv : Int32) (hln : ∀ j, ln j ≤ 12) (hl0 : l.stackTraces = false) (x0 : Int32) (hbad : ¬ (InN 6 x0)) : vx_Met l yX0_order wsX0_order ({ frames := 6, cells := 1, slots := 6, locals := 82 }) (va_Pc [.ref h0, .int x0] (fun U => xOK U ∧ va_P D vwCl (WB h0 hn hd hq cZ cD cI nb v ln go mv) U.heap ∧ va_K D vwCl (TY cZ cD cI) U)) (fun _ _ _ _ => False) (rd_X (fun E => E = IAE)) 1 6 (fun _ => False) := by
  refine vx_ofW (cc := cX0_order) (maxL := 4) (ret := some .int) (by decide) rfl ?_
  intro p e s m args below meth c s₁ B hml hno hv
  obtain ⟨rfl, hX, hP, hK⟩ := hv
  have hx := B.exec
  have hb := B.bytes
  have hr := B.returns
  have hts := atoms_spec (ws := wsX0_order) B.pre
  have hown : s.vm.findClass RX0 = some m.cls := findClass_of_methodNamed B.named
  have hlocks := B.notSynchronized
  have hl := lv_entry ([.ref h0, .int x0]) (n := 4) (Nat.le_of_ble_eq_true rfl)
  rw [lg_entry_eq]
  generalize (lg_sl ([.ref h0, .int x0]) ++ List.replicate (4 - (lg_sl ([.ref h0, .int x0])).length) Slot.unset).toArray = ls at hl ⊢
  have hl : lv_has ls 4 [(0, .ref h0), (1, .int x0)] := hl
  refine lv_iload_n hx hb dX0_order_0 rfl (lv_at hl 1 rfl) ?_
  refine lv_if_lt (tgt := 10) hx hb dX0_order_1 (by decide) (fun c_1 => ?_) (fun c_1 => ?_)
  · exact th_S (l := l) hx hb hl0 hown (by decide +kernel) (hts (.classLink RX0 59 IAE) (by decide +kernel)) (hts (.initialized IAE) (by decide +kernel)) (xS_111 hX.2.1) (fun w h => hts w (List.mem_cons_of_mem _ (List.mem_append_right _ h))) xn_IAE hX.2.2.2.1 xg_IAE hX (by rw [hml]; exact hl.1) dX0_order_10 dX0_order_13 dX0_order_14 dX0_order_16 dX0_order_19 hno (Nat.le_of_ble_eq_true rfl) (Nat.le_of_ble_eq_true rfl) (Nat.le_of_ble_eq_true rfl) (Nat.le_of_ble_eq_true rfl) hlocks (rfl) (Nat.le_of_ble_eq_true rfl) (Nat.le_of_ble_eq_true rfl)
  · refine lv_iload_n hx hb dX0_order_4 rfl (lv_at hl 1 rfl) ?_
    refine lv_bipush (v := nI 6) hx hb dX0_order_5 (by decide) ?_
    refine lv_icmp_lt (tgt := 20) hx hb dX0_order_7 (by decide) (fun c_2 => ?_) (fun c_2 => ?_)
    · exact absurd (show InN 6 x0 from in_of (by decide) c_1 c_2) hbad
    · exact th_S (l := l) hx hb hl0 hown (by decide +kernel) (hts (.classLink RX0 59 IAE) (by decide +kernel)) (hts (.initialized IAE) (by decide +kernel)) (xS_111 hX.2.1) (fun w h => hts w (List.mem_cons_of_mem _ (List.mem_append_right _ h))) xn_IAE hX.2.2.2.1 xg_IAE hX (by rw [hml]; exact hl.1) dX0_order_10 dX0_order_13 dX0_order_14 dX0_order_16 dX0_order_19 hno (Nat.le_of_ble_eq_true rfl) (Nat.le_of_ble_eq_true rfl) (Nat.le_of_ble_eq_true rfl) (Nat.le_of_ble_eq_true rfl) hlocks (rfl) (Nat.le_of_ble_eq_true rfl) (Nat.le_of_ble_eq_true rfl)
set_option maxHeartbeats 4000000 in
set_option maxRecDepth 100000 in
theorem c_X0_highest_bad (l : Launch) (D : va_G) (h0 hn hd hq : Nat) (cZ cD cI : ClassId) (nb : Nat → Bool) (v : Nat → UInt64) (ln : Nat → Nat) (go : Bool) (mv : Int32) (hln : ∀ j, ln j ≤ 12) (hl0 : l.stackTraces = false) (x0 : Int32) (hbad : ¬ (InN 6 x0)) : vx_Met l yX0_highest wsX0_highest ({ frames := 7, cells := 1, slots := 6, locals := 102 }) (va_Pc [.ref h0, .int x0] (fun U => xOK U ∧ va_P D vwCl (WB h0 hn hd hq cZ cD cI nb v ln go mv) U.heap ∧ va_K D vwCl (TY cZ cD cI) U)) (fun _ _ _ _ => False) (rd_X (fun E => E = IAE)) 1 6 (fun _ => False) := by
  refine vx_ofW (cc := cX0_highest) (maxL := 2) (ret := some .double) (by decide) rfl ?_
  intro p e s m args below meth c s₁ B hml hno hv
  obtain ⟨rfl, hX, hP, hK⟩ := hv
  have hx := B.exec
  have hb := B.bytes
  have hr := B.returns
  have hts := atoms_spec (ws := wsX0_highest) B.pre
  have hown : s.vm.findClass RX0 = some m.cls := findClass_of_methodNamed B.named
  have hlocks := B.notSynchronized
  have hl := lv_entry ([.ref h0, .int x0]) (n := 2) (Nat.le_of_ble_eq_true rfl)
  rw [lg_entry_eq]
  generalize (lg_sl ([.ref h0, .int x0]) ++ List.replicate (2 - (lg_sl ([.ref h0, .int x0])).length) Slot.unset).toArray = ls at hl ⊢
  have hl : lv_has ls 2 [(0, .ref h0), (1, .int x0)] := hl
  refine lv_iload_n hx hb dX0_highest_0 rfl (lv_at hl 1 rfl) ?_
  refine kx_callv (vx_runS (As := [.int x0]) (rest := []) ⟨hx, hb, hml, hown, hts⟩ (c_X0_needGauge l hl0 x0 ) (va_cwS 1 hts gX0_highest_X0_needGauge rfl rfl rfl (by decide +kernel) ⟨Nat.le_of_ble_eq_true rfl, Nat.le_of_ble_eq_true rfl⟩) ⟨fun a U g mk q => ⟨q.1, xOK_call q.2 g mk a⟩, fun U hU hW => ⟨rfl, xOK_at hX hU hW⟩⟩ rfl rfl hl.1 rfl (lv_room (Nat.le_of_ble_eq_true rfl)) dX0_highest_1 ⟨Nat.le_of_ble_eq_true rfl, Nat.le_of_ble_eq_true rfl⟩) hno hlocks (fun E hE => hE.1) (Nat.le_of_ble_eq_true rfl) (Nat.le_of_ble_eq_true rfl) (fun h_1 => ?_)
  exact absurd (show InN 6 x0 from h_1) hbad
set_option maxHeartbeats 4000000 in
set_option maxRecDepth 100000 in
theorem c_X0_calmest_bad (l : Launch) (D : va_G) (h0 hn hd hq : Nat) (cZ cD cI : ClassId) (nb : Nat → Bool) (v : Nat → UInt64) (ln : Nat → Nat) (go : Bool) (mv : Int32) (hln : ∀ j, ln j ≤ 12) (hl0 : l.stackTraces = false) (x0 : Int32) (hbad : ¬ (InN 6 x0)) : vx_Met l yX0_calmest wsX0_calmest ({ frames := 7, cells := 1, slots := 6, locals := 102 }) (va_Pc [.ref h0, .int x0] (fun U => xOK U ∧ va_P D vwCl (WB h0 hn hd hq cZ cD cI nb v ln go mv) U.heap ∧ va_K D vwCl (TY cZ cD cI) U)) (fun _ _ _ _ => False) (rd_X (fun E => E = IAE)) 1 6 (fun _ => False) := by
  refine vx_ofW (cc := cX0_calmest) (maxL := 2) (ret := some .float) (by decide) rfl ?_
  intro p e s m args below meth c s₁ B hml hno hv
  obtain ⟨rfl, hX, hP, hK⟩ := hv
  have hx := B.exec
  have hb := B.bytes
  have hr := B.returns
  have hts := atoms_spec (ws := wsX0_calmest) B.pre
  have hown : s.vm.findClass RX0 = some m.cls := findClass_of_methodNamed B.named
  have hlocks := B.notSynchronized
  have hl := lv_entry ([.ref h0, .int x0]) (n := 2) (Nat.le_of_ble_eq_true rfl)
  rw [lg_entry_eq]
  generalize (lg_sl ([.ref h0, .int x0]) ++ List.replicate (2 - (lg_sl ([.ref h0, .int x0])).length) Slot.unset).toArray = ls at hl ⊢
  have hl : lv_has ls 2 [(0, .ref h0), (1, .int x0)] := hl
  refine lv_iload_n hx hb dX0_calmest_0 rfl (lv_at hl 1 rfl) ?_
  refine kx_callv (vx_runS (As := [.int x0]) (rest := []) ⟨hx, hb, hml, hown, hts⟩ (c_X0_needGauge l hl0 x0 ) (va_cwS 1 hts gX0_calmest_X0_needGauge rfl rfl rfl (by decide +kernel) ⟨Nat.le_of_ble_eq_true rfl, Nat.le_of_ble_eq_true rfl⟩) ⟨fun a U g mk q => ⟨q.1, xOK_call q.2 g mk a⟩, fun U hU hW => ⟨rfl, xOK_at hX hU hW⟩⟩ rfl rfl hl.1 rfl (lv_room (Nat.le_of_ble_eq_true rfl)) dX0_calmest_1 ⟨Nat.le_of_ble_eq_true rfl, Nat.le_of_ble_eq_true rfl⟩) hno hlocks (fun E hE => hE.1) (Nat.le_of_ble_eq_true rfl) (Nat.le_of_ble_eq_true rfl) (fun h_1 => ?_)
  exact absurd (show InN 6 x0 from h_1) hbad
set_option maxHeartbeats 4000000 in
set_option maxRecDepth 100000 in
theorem c_X0_same_bad (l : Launch) (D : va_G) (h0 hn hd hq : Nat) (cZ cD cI : ClassId) (nb : Nat → Bool) (v : Nat → UInt64) (ln : Nat → Nat) (go : Bool) (mv : Int32) (hln : ∀ j, ln j ≤ 12) (hl0 : l.stackTraces = false) (x0 : Int32) (x1 : Int32) (hbad : ¬ (InN 6 x0 ∧ InN 6 x1)) : vx_Met l yX0_same wsX0_same ({ frames := 7, cells := 2, slots := 12, locals := 102 }) (va_Pc [.ref h0, .int x0, .int x1] (fun U => xOK U ∧ va_P D vwCl (WB h0 hn hd hq cZ cD cI nb v ln go mv) U.heap ∧ va_K D vwCl (TY cZ cD cI) U)) (fun _ _ _ _ => False) (rd_X (fun E => E = IAE)) 2 12 (fun _ => False) := by
  refine vx_ofW (cc := cX0_same) (maxL := 7) (ret := some .int) (by decide) rfl ?_
  intro p e s m args below meth c s₁ B hml hno hv
  obtain ⟨rfl, hX, hP, hK⟩ := hv
  have hx := B.exec
  have hb := B.bytes
  have hr := B.returns
  have hts := atoms_spec (ws := wsX0_same) B.pre
  have hown : s.vm.findClass RX0 = some m.cls := findClass_of_methodNamed B.named
  have hlocks := B.notSynchronized
  have hl := lv_entry ([.ref h0, .int x0, .int x1]) (n := 7) (Nat.le_of_ble_eq_true rfl)
  rw [lg_entry_eq]
  generalize (lg_sl ([.ref h0, .int x0, .int x1]) ++ List.replicate (7 - (lg_sl ([.ref h0, .int x0, .int x1])).length) Slot.unset).toArray = ls at hl ⊢
  have hl : lv_has ls 7 [(0, .ref h0), (1, .int x0), (2, .int x1)] := hl
  refine lv_iload_n hx hb dX0_same_0 rfl (lv_at hl 1 rfl) ?_
  refine kx_callv (vx_runS (As := [.int x0]) (rest := []) ⟨hx, hb, hml, hown, hts⟩ (c_X0_needGauge l hl0 x0 ) (va_cwS 1 hts gX0_same_X0_needGauge rfl rfl rfl (by decide +kernel) ⟨Nat.le_of_ble_eq_true rfl, Nat.le_of_ble_eq_true rfl⟩) ⟨fun a U g mk q => ⟨q.1, xOK_call q.2 g mk a⟩, fun U hU hW => ⟨rfl, xOK_at hX hU hW⟩⟩ rfl rfl hl.1 rfl (lv_room (Nat.le_of_ble_eq_true rfl)) dX0_same_1 ⟨Nat.le_of_ble_eq_true rfl, Nat.le_of_ble_eq_true rfl⟩) hno hlocks (fun E hE => hE.1) (Nat.le_of_ble_eq_true rfl) (Nat.le_of_ble_eq_true rfl) (fun h_1 => ?_)
  refine lv_iload_n hx hb dX0_same_4 rfl (lv_at hl 2 rfl) ?_
  refine kx_callv (vx_runS (As := [.int x1]) (rest := []) ⟨hx, hb, hml, hown, hts⟩ (c_X0_needGauge l hl0 x1 ) (va_cwS 1 hts gX0_same_X0_needGauge rfl rfl rfl (by decide +kernel) ⟨Nat.le_of_ble_eq_true rfl, Nat.le_of_ble_eq_true rfl⟩) ⟨fun a U g mk q => ⟨q.1, xOK_call q.2 g mk a⟩, fun U hU hW => ⟨rfl, xOK_at hX hU hW⟩⟩ rfl rfl hl.1 rfl (lv_room (Nat.le_of_ble_eq_true rfl)) dX0_same_5 ⟨Nat.le_of_ble_eq_true rfl, Nat.le_of_ble_eq_true rfl⟩) hno hlocks (fun E hE => hE.1) (Nat.le_of_ble_eq_true rfl) (Nat.le_of_ble_eq_true rfl) (fun h_2 => ?_)
  exact absurd (show InN 6 x0 ∧ InN 6 x1 from ⟨h_1, h_2⟩) hbad
set_option maxHeartbeats 4000000 in
set_option maxRecDepth 100000 in
theorem c_X0_size_bad (l : Launch) (D : va_G) (h0 hn hd hq : Nat) (cZ cD cI : ClassId) (nb : Nat → Bool) (v : Nat → UInt64) (ln : Nat → Nat) (go : Bool) (mv : Int32) (hln : ∀ j, ln j ≤ 12) (hl0 : l.stackTraces = false) (x0 : Int32) (x1 : Int32) (hbad : ¬ (InN 6 x0 ∧ InN 2 x1)) : vx_Met l yX0_size wsX0_size ({ frames := 7, cells := 2, slots := 12, locals := 102 }) (va_Pc [.ref h0, .int x0, .int x1] (fun U => xOK U ∧ va_P D vwCl (WB h0 hn hd hq cZ cD cI nb v ln go mv) U.heap ∧ va_K D vwCl (TY cZ cD cI) U)) (fun _ _ _ _ => False) (rd_X (fun E => E = IAE)) 2 12 (fun _ => False) := by
  refine vx_ofW (cc := cX0_size) (maxL := 3) (ret := some .int) (by decide) rfl ?_
  intro p e s m args below meth c s₁ B hml hno hv
  obtain ⟨rfl, hX, hP, hK⟩ := hv
  have hx := B.exec
  have hb := B.bytes
  have hr := B.returns
  have hts := atoms_spec (ws := wsX0_size) B.pre
  have hown : s.vm.findClass RX0 = some m.cls := findClass_of_methodNamed B.named
  have hlocks := B.notSynchronized
  have hl := lv_entry ([.ref h0, .int x0, .int x1]) (n := 3) (Nat.le_of_ble_eq_true rfl)
  rw [lg_entry_eq]
  generalize (lg_sl ([.ref h0, .int x0, .int x1]) ++ List.replicate (3 - (lg_sl ([.ref h0, .int x0, .int x1])).length) Slot.unset).toArray = ls at hl ⊢
  have hl : lv_has ls 3 [(0, .ref h0), (1, .int x0), (2, .int x1)] := hl
  refine lv_iload_n hx hb dX0_size_0 rfl (lv_at hl 1 rfl) ?_
  refine kx_callv (vx_runS (As := [.int x0]) (rest := []) ⟨hx, hb, hml, hown, hts⟩ (c_X0_needGauge l hl0 x0 ) (va_cwS 1 hts gX0_size_X0_needGauge rfl rfl rfl (by decide +kernel) ⟨Nat.le_of_ble_eq_true rfl, Nat.le_of_ble_eq_true rfl⟩) ⟨fun a U g mk q => ⟨q.1, xOK_call q.2 g mk a⟩, fun U hU hW => ⟨rfl, xOK_at hX hU hW⟩⟩ rfl rfl hl.1 rfl (lv_room (Nat.le_of_ble_eq_true rfl)) dX0_size_1 ⟨Nat.le_of_ble_eq_true rfl, Nat.le_of_ble_eq_true rfl⟩) hno hlocks (fun E hE => hE.1) (Nat.le_of_ble_eq_true rfl) (Nat.le_of_ble_eq_true rfl) (fun h_1 => ?_)
  refine lv_iload_n hx hb dX0_size_4 rfl (lv_at hl 2 rfl) ?_
  refine kx_callv (vx_runS (As := [.int x1]) (rest := []) ⟨hx, hb, hml, hown, hts⟩ (c_X0_needWhat l hl0 x1 ) (va_cwS 1 hts gX0_size_X0_needWhat rfl rfl rfl (by decide +kernel) ⟨Nat.le_of_ble_eq_true rfl, Nat.le_of_ble_eq_true rfl⟩) ⟨fun a U g mk q => ⟨q.1, xOK_call q.2 g mk a⟩, fun U hU hW => ⟨rfl, xOK_at hX hU hW⟩⟩ rfl rfl hl.1 rfl (lv_room (Nat.le_of_ble_eq_true rfl)) dX0_size_5 ⟨Nat.le_of_ble_eq_true rfl, Nat.le_of_ble_eq_true rfl⟩) hno hlocks (fun E hE => hE.1) (Nat.le_of_ble_eq_true rfl) (Nat.le_of_ble_eq_true rfl) (fun h_2 => ?_)
  exact absurd (show InN 6 x0 ∧ InN 2 x1 from ⟨h_1, h_2⟩) hbad
