theorem outs_in {x : Int32} {n : Nat} (hn : n < 2147483647) (h : outs x n = false) : InN (n + 1) x := by
  simp [outs] at h
  obtain ⟨h1, h2⟩ := h
  obtain ⟨j, hj, rfl⟩ := nI_of (Int32.not_lt.mpr h1)
  exact ⟨j, by have := (nI_leI hj (by omega)).mp h2; omega, rfl⟩
theorem outs_out {x : Int32} {n : Nat} (hn : n < 2147483647) (h : ¬ InN (n + 1) x) : outs x n = true := bnt (fun q => h (outs_in hn q))
def gq (P : Nat → Bool) : Nat → Bool
  | 0 => true
  | i + 1 => gq P i && P i
def nq (P : Nat → Bool) : Nat → Nat
  | 0 => 0
  | i + 1 => if gq P (i + 1) = true then nq P i + 1 else nq P i
theorem gq_tt {P : Nat → Bool} {i : Nat} (h1 : gq P i = true) (h2 : P i = true) : gq P (i + 1) = true ∧ nq P (i + 1) = nq P i + 1 := by simp [nq, gq, h1, h2]
theorem gq_tf {P : Nat → Bool} {i : Nat} (h1 : gq P i = true) (h2 : P i = false) : gq P (i + 1) = false ∧ nq P (i + 1) = nq P i := by simp [nq, gq, h2]
theorem gq_f {P : Nat → Bool} {i : Nat} (h1 : gq P i = false) : gq P (i + 1) = false ∧ nq P (i + 1) = nq P i := by simp [nq, gq, h1]
def swM (io : Nat → Bool) (mv : Nat → UInt64) (sz : Nat → Nat) (mk : Nat → UInt64) (se : Nat → Bool) (g : Nat) : Nat := if wy (lo io sz (2 * g + 1) || !se (3 * g + 2)) (lw mv sz (2 * g + 1)) (mk (3 * g + 2)) = 1 then 10 else if wy (lo io sz (2 * g + 1) || !se (3 * g + 2)) (lw mv sz (2 * g + 1)) (mk (3 * g + 2)) < 8 then 20 else if se (3 * g + 2) = true then 30 else 0
def fM (R : Nat → Nat) (k : Nat) : Nat → Nat
  | 0 => 0
  | i + 1 => if R i = k then i else fM R k i
theorem fM_t {R : Nat → Nat} {k i : Nat} (h : R i = k) : fM R k (i + 1) = i := by simp [fM, h]
theorem fM_f {R : Nat → Nat} {k i : Nat} (h : R i ≠ k) : fM R k (i + 1) = fM R k i := by simp [fM, h]
def rkM (io : Nat → Bool) (mv : Nat → UInt64) (sz : Nat → Nat) (g : Nat) : Nat := cn (fun j => decide (j ≠ g) && ahM io mv sz j g) 6
def sM (io : Nat → Bool) (mv : Nat → UInt64) (g h : Nat) : Nat → Nat
  | 0 => 2
  | i + 1 => if sM io mv g h i = 0 then 0 else if wy (io (24 * g + i) || io (24 * h + i)) (mv (24 * g + i)) (mv (24 * h + i)) = 2 then sM io mv g h i else if io (24 * g + i) = true ∧ io (24 * h + i) = true then 1 else 0
theorem sM_le (io : Nat → Bool) (mv : Nat → UInt64) (g h : Nat) : ∀ i, sM io mv g h i ≤ 2
  | 0 => Nat.le_refl _
  | i + 1 => by have := sM_le io mv g h i; unfold sM; split; omega; split; omega; split <;> omega
theorem sM_stay {io : Nat → Bool} {mv : Nat → UInt64} {g h i : Nat} (h0 : sM io mv g h i = 0) : ∀ {n : Nat}, i ≤ n → sM io mv g h n = sM io mv g h i := by
  intro n hn
  induction n with
  | zero => have : i = 0 := by omega
            rw [this]
  | succ n ih =>
    rcases Nat.lt_or_ge n i with q | q
    · have : i = n + 1 := by omega
      rw [this]
    · have := ih q
      rw [h0] at this ⊢
      simp [sM, this]
def wA (io : Nat → Bool) (mv : Nat → UInt64) (sz : Nat → Nat) : Nat := wy (lo io sz 0 || lo io sz 2) (lw mv sz 0) (lw mv sz 2)
def tMo (io : Nat → Bool) (mv : Nat → UInt64) (sz : Nat → Nat) (mk : Nat → UInt64) (se : Nat → Bool) (op : Bool) : Nat := thr op (decide (¬ wy (lo io sz 0 || lo io sz 2) (lw mv sz 0) (lw mv sz 2) = 4)) (se 5 && decide (¬ wy (lo io sz 3 || !se 5) (lw mv sz 3) (mk 5) = 1))
def tMs (io : Nat → Bool) (mv : Nat → UInt64) (sz : Nat → Nat) (mk : Nat → UInt64) (se : Nat → Bool) (op : Bool) : Nat := thr (!op) (decide (wy (lo io sz 0 || !se 0) (lw mv sz 0) (mk 0) = 4)) (decide (wy (lo io sz 2 || !se 1) (lw mv sz 2) (mk 1) < 4))
set_option maxHeartbeats 4000000 in
set_option maxRecDepth 100000 in
theorem c_X1_level (l : Launch) (D : va_G) (k0 kv ko ks km kt kp kb : Nat) (cZ cD cI : ClassId) (th : Nat) (mv : Nat → UInt64) (io : Nat → Bool) (sz : Nat → Nat) (mk : Nat → UInt64) (se : Nat → Bool) (pv : Nat → UInt64) (pd : Nat → Bool) (op : Bool) (mw : Int32) (hsz : ∀ j, sz j ≤ 12) (zz : Nat) (g : Nat) (x : UInt64) (hg : g < 6) (hlv : lvl x = true) (hrm : sz (2 * g) < 12) : Met l yX1_level wsX1_level ({ frames := 1, cells := 0, slots := 0, locals := 25 }) (va_Pc [.ref k0, .int (nI g), .double x] (fun U => U.heap.size = zz ∧ va_P D vwCl (WM k0 kv ko ks km kt kp kb cZ cD cI th mv io sz mk se pv pd op mw) U.heap ∧ va_K D vwCl (TY cZ cD cI) U ∧ va_D (fun _ => True) (WM k0 kv ko ks km kt kp kb cZ cD cI th mv io sz mk se pv pd op mw))) (wr_Qi (fun r => r = nI (sz (2 * g) + 1)) (fun H => va_P D vwCl (WM k0 kv ko ks km kt kp kb cZ cD cI (thr false false false) (up mv (12 * (2 * g) + sz (2 * g)) x) (up io (12 * (2 * g) + sz (2 * g)) false) (up sz (2 * g) (sz (2 * g) + 1)) mk se pv pd op mw) H) (va_A (WM k0 kv ko ks km kt kp kb cZ cD cI th mv io sz mk se pv pd op mw) zz))  0 0 (va_A (WM k0 kv ko ks km kt kp kb cZ cD cI th mv io sz mk se pv pd op mw) zz) := by
  refine Met.ofW (cc := cX1_level) (maxL := 5) (ret := some .int) (by decide) rfl ?_
  intro p e s m args below meth c s₁ B hml hv
  obtain ⟨rfl, hsz_, hP, hK, hD0⟩ := hv
  have hx := B.exec
  have hb := B.bytes
  have hr := B.returns
  have hts := atoms_spec (ws := wsX1_level) B.pre
  have hown : s.vm.findClass RX1 = some m.cls := findClass_of_methodNamed B.named
  have hlocks := B.notSynchronized
  subst hsz_
  have hD := hD0.self (sz := s.heap.size)
  generalize hAe : va_A (WM k0 kv ko ks km kt kp kb cZ cD cI th mv io sz mk se pv pd op mw) s.heap.size = A at hD ⊢
  have hA : ∀ q : Nat, s.heap.size ≤ q → A q := fun q h => by rw [← hAe]; exact Or.inr h
  have hS : va_S A s.heap s.heap [] := va_S.rf
  have hl := lv_entry ([.ref k0, .int (nI g), .double x]) (n := 5) (Nat.le_of_ble_eq_true rfl)
  rw [lg_entry_eq]
  generalize (lg_sl ([.ref k0, .int (nI g), .double x]) ++ List.replicate (5 - (lg_sl ([.ref k0, .int (nI g), .double x])).length) Slot.unset).toArray = ls at hl ⊢
  have hl : lv_has ls 5 [(0, .ref k0), (1, .int (nI g)), (2, .double x)] := hl
  have hinRX1 : ∀ w ∈ wsX10, w ∈ wsX1_level := by decide +kernel
  have hf_17 := hts (.fieldLink RX1 17 "HarbourBoardModel" "sizes" "[I") (by decide +kernel)
  have h1 := hsz (2 * g)
  refine lv_iload_n hx hb dX1_level_0 rfl (lv_at hl 1 rfl) ?_
  refine lv_iconst (v := nI 5) hx hb dX1_level_1 (by decide) ?_
  refine rd_calli (va_runS (As := [.int (nI g), .int (nI 5)]) (rest := []) ⟨hx, hb, hml, hown, hts⟩ (c_X1_inside l g 5 (by omega) (by omega)) (va_cwS 2 hts gX1_level_X1_outside rfl rfl rfl (by decide +kernel) ⟨Nat.le_of_ble_eq_true rfl, Nat.le_of_ble_eq_true rfl⟩) ⟨fun a U g mk q => q, fun U hU hW => ⟨rfl, trivial⟩⟩ rfl rfl hl.1 rfl (lv_room (Nat.le_of_ble_eq_true rfl)) dX1_level_2 ⟨Nat.le_of_ble_eq_true rfl, Nat.le_of_ble_eq_true rfl⟩) (fun r_1 hr_1 => ?_)
  subst hr_1
  refine kb_ne (tgt := 15) hx hb dX1_level_5 (by decide) (fun h => absurd h (by decide)) (fun _ => ?_)
  refine lv_dload_n hx hb dX1_level_8 rfl (lv_at hl 2 rfl) ?_
  refine rd_calli (va_runS (As := [.double x]) (rest := []) ⟨hx, hb, hml, hown, hts⟩ (c_X1_isLevel l x ) (va_cwS 1 hts gX1_level_X1_isLevel rfl rfl rfl (by decide +kernel) ⟨Nat.le_of_ble_eq_true rfl, Nat.le_of_ble_eq_true rfl⟩) ⟨fun a U g mk q => q, fun U hU hW => ⟨rfl, trivial⟩⟩ rfl rfl hl.1 rfl (lv_room (Nat.le_of_ble_eq_true rfl)) dX1_level_9 ⟨Nat.le_of_ble_eq_true rfl, Nat.le_of_ble_eq_true rfl⟩) (fun r_2 hr_2 => ?_)
  subst hr_2
  refine kb_ne (tgt := 19) hx hb dX1_level_12 (by decide) (fun _ => ?_) (fun h => absurd (hlv.symm.trans h) (by decide))
  refine lv_iconst (v := nI 0) hx hb dX1_level_19 (by decide) ?_
  refine lv_istore (lv' := [(4, .int (nI 0)), (0, .ref k0), (1, .int (nI g)), (2, .double x)]) hx hb dX1_level_20 hl (by decide) rfl (fun ls hl => ?_)
  refine lv_aload_n hx hb dX1_level_22 rfl (lv_at hl 1 rfl) ?_
  refine lv_iload hx hb dX1_level_23 (lv_at hl 0 rfl) ?_
  refine lv_iload hx hb dX1_level_25 (lv_at hl 0 rfl) ?_
  refine kn_ne (tgt := 47) hx hb (by decide) dX1_level_27 (by decide) (fun h => absurd h (by decide)) (fun _ => ?_)
  refine lv_aload_n hx hb dX1_level_30 rfl (lv_at hl 1 rfl) ?_
  refine va_get (D := D) (ci := 2) (v := .ref ks) (C := RX1) (T := TX1) (N := 10) hx hb hts hinRX1 hown hK hP 0 rfl rfl 3 (by decide) hf_17 (fun _ h9 => h9) rfl dX1_level_31 ?_
  refine lv_iconst (v := nI 2) hx hb dX1_level_34 (by decide) ?_
  refine lv_iload_n hx hb dX1_level_35 rfl (lv_at hl 2 rfl) ?_
  refine kn_imul hx hb dX1_level_36 ?_
  refine kn_iald hx hb hK hP 3 2 rfl rfl (by omega) (by decide) dX1_level_37 ?_
  refine lv_bipush (v := nI 12) hx hb dX1_level_38 (by decide) ?_
  refine kn_icmp_ne (tgt := 47) hx hb (by omega) (by decide) dX1_level_40 (by decide) (fun c_x => ?_) (fun h => absurd h (by omega))
  refine lv_iconst (v := nI 0) hx hb dX1_level_47 (by decide) ?_
  refine lv_iconst (v := nI 0) hx hb dX1_level_48 (by decide) ?_
  have hFc := va_free (wc := WM k0 kv ko ks km kt kp kb cZ cD cI th mv io sz mk se pv pd op mw) hD hS hA [0, 1, 2, 3, 4, 5, 6, 7] rfl
  refine wr_calli (va_runV (As := [.int (b2i false), .int (b2i false), .int (b2i false)]) (rest := []) ⟨hx, hb, hml, hown, hts⟩ (c_X1_throwing l D k0 kv ko ks km kt kp kb cZ cD cI th mv io sz mk se pv pd op mw hsz s.heap.size false false false ) (cwV 3 hts gX1_level_X1_throwing rfl rfl rfl (by decide +kernel) ⟨Nat.le_of_ble_eq_true rfl, Nat.le_of_ble_eq_true rfl⟩) ⟨fun a U g mk q => ⟨q.1, q.2.1, q.2.2.1, va_K.moved (u := U) (U := U.calling g mk a) (Vm.Alike.refl U.vm) q.2.2.2.1, q.2.2.2.2⟩, va_recv hK hP (ci := 2) (q0 := 0) rfl rfl, fun U hU hW => ⟨rfl, by rw [hU], by rw [hU]; exact hP, va_K.moved hW.alike hK, hD.weaken (fun _ _ _ _ => trivial)⟩⟩ rfl rfl hl.1 rfl (lv_room (Nat.le_of_ble_eq_true rfl)) dX1_level_49 ⟨Nat.le_of_ble_eq_true rfl, Nat.le_of_ble_eq_true rfl⟩) hS hFc (fun r_3 H locs hr_3 hP _ _ hS => ?_)
  subst hr_3
  refine kt_i (y := b2i false) rfl ?_
  have hD : va_D A (WM k0 kv ko ks km kt kp kb cZ cD cI (thr false false false) mv io sz mk se pv pd op mw) := va_D_same (ws := WM k0 kv ko ks km kt kp kb cZ cD cI th mv io sz mk se pv pd op mw) rfl hD
  have hP : va_P D vwCl (WM k0 kv ko ks km kt kp kb cZ cD cI (thr false false false) mv io sz mk se pv pd op mw) H := hP
  refine kb_eq (tgt := 57) hx hb dX1_level_52 (by decide) (fun _ => ?_) (fun h => absurd h (by decide))
  refine lv_aload_n hx hb dX1_level_57 rfl (lv_at hl 1 rfl) ?_
  refine lv_iconst (v := nI 2) hx hb dX1_level_58 (by decide) ?_
  refine lv_iload_n hx hb dX1_level_59 rfl (lv_at hl 2 rfl) ?_
  refine kn_imul hx hb dX1_level_60 ?_
  refine lv_iconst (v := nI 0) hx hb dX1_level_61 (by decide) ?_
  refine lv_dload_n hx hb dX1_level_62 rfl (lv_at hl 3 rfl) ?_
  have hFc := va_free (wc := WM k0 kv ko ks km kt kp kb cZ cD cI (thr false false false) mv io sz mk se pv pd op mw) hD hS hA [0, 1, 2, 3, 4, 5, 6, 7] rfl
  refine wr_calli (va_runV (As := [.int (nI (2 * g)), .int (b2i false), .double x]) (rest := []) ⟨hx, hb, hml, hown, hts⟩ (c_X1_comes l D k0 kv ko ks km kt kp kb cZ cD cI (thr false false false) mv io sz mk se pv pd op mw hsz H.size (2 * g) false x (by omega) (by omega)) (cwV 3 hts gX1_level_X1_comes rfl rfl rfl (by decide +kernel) ⟨Nat.le_of_ble_eq_true rfl, Nat.le_of_ble_eq_true rfl⟩) ⟨fun a U g mk q => ⟨q.1, q.2.1, q.2.2.1, va_K.moved (u := U) (U := U.calling g mk a) (Vm.Alike.refl U.vm) q.2.2.2.1, q.2.2.2.2⟩, va_recv hK hP (ci := 2) (q0 := 0) rfl rfl, fun U hU hW => ⟨rfl, by rw [hU], by rw [hU]; exact hP, va_K.moved hW.alike hK, hD.weaken (fun _ _ _ _ => trivial)⟩⟩ rfl rfl hl.1 rfl (lv_room (Nat.le_of_ble_eq_true rfl)) dX1_level_63 ⟨Nat.le_of_ble_eq_true rfl, Nat.le_of_ble_eq_true rfl⟩) hS hFc (fun r_4 H locs hr_4 hP _ _ hS => ?_)
  subst hr_4
  have hln_5 : ∀ j, (up sz (2 * g) (sz (2 * g) + 1)) j ≤ 12 := up_le hsz (by omega)
  have hD : va_D A (WM k0 kv ko ks km kt kp kb cZ cD cI (thr false false false) (up mv (12 * (2 * g) + sz (2 * g)) x) (up io (12 * (2 * g) + sz (2 * g)) false) (up sz (2 * g) (sz (2 * g) + 1)) mk se pv pd op mw) := va_D_same (ws := WM k0 kv ko ks km kt kp kb cZ cD cI (thr false false false) mv io sz mk se pv pd op mw) rfl hD
  have hP : va_P D vwCl (WM k0 kv ko ks km kt kp kb cZ cD cI (thr false false false) (up mv (12 * (2 * g) + sz (2 * g)) x) (up io (12 * (2 * g) + sz (2 * g)) false) (up sz (2 * g) (sz (2 * g) + 1)) mk se pv pd op mw) H := hP
  refine W.widen (k := 0) (n := 0) (Nat.le_of_ble_eq_true rfl) (Nat.le_of_ble_eq_true rfl) ?_
  exact W.iret (v := nI (sz (2 * g) + 1)) hx hb hr (fun t9 ht9 hW9 => ⟨⟨_, rfl, rfl, by rw [ht9]; exact hP⟩, hS.F ht9⟩) hS.2.2 dX1_level_66
set_option maxHeartbeats 4000000 in
set_option maxRecDepth 100000 in
theorem c_X1_level_full (l : Launch) (D : va_G) (k0 kv ko ks km kt kp kb : Nat) (cZ cD cI : ClassId) (th : Nat) (mv : Nat → UInt64) (io : Nat → Bool) (sz : Nat → Nat) (mk : Nat → UInt64) (se : Nat → Bool) (pv : Nat → UInt64) (pd : Nat → Bool) (op : Bool) (mw : Int32) (hsz : ∀ j, sz j ≤ 12) (zz : Nat) (g : Nat) (x : UInt64) (hg : g < 6) (hlv : lvl x = true) (hfull : sz (2 * g) = 12) : Met l yX1_level wsX1_level ({ frames := 1, cells := 0, slots := 0, locals := 23 }) (va_Pc [.ref k0, .int (nI g), .double x] (fun U => U.heap.size = zz ∧ va_P D vwCl (WM k0 kv ko ks km kt kp kb cZ cD cI th mv io sz mk se pv pd op mw) U.heap ∧ va_K D vwCl (TY cZ cD cI) U ∧ va_D (fun _ => True) (WM k0 kv ko ks km kt kp kb cZ cD cI th mv io sz mk se pv pd op mw))) (wr_Qi (fun r => r = nI 0) (fun H => va_P D vwCl (WM k0 kv ko ks km kt kp kb cZ cD cI (thr false true false) mv io sz mk se pv pd op mw) H) (va_A (WM k0 kv ko ks km kt kp kb cZ cD cI th mv io sz mk se pv pd op mw) zz))  0 0 (va_A (WM k0 kv ko ks km kt kp kb cZ cD cI th mv io sz mk se pv pd op mw) zz) := by
  refine Met.ofW (cc := cX1_level) (maxL := 5) (ret := some .int) (by decide) rfl ?_
  intro p e s m args below meth c s₁ B hml hv
  obtain ⟨rfl, hsz_, hP, hK, hD0⟩ := hv
  have hx := B.exec
  have hb := B.bytes
  have hr := B.returns
  have hts := atoms_spec (ws := wsX1_level) B.pre
  have hown : s.vm.findClass RX1 = some m.cls := findClass_of_methodNamed B.named
  have hlocks := B.notSynchronized
  subst hsz_
  have hD := hD0.self (sz := s.heap.size)
  generalize hAe : va_A (WM k0 kv ko ks km kt kp kb cZ cD cI th mv io sz mk se pv pd op mw) s.heap.size = A at hD ⊢
  have hA : ∀ q : Nat, s.heap.size ≤ q → A q := fun q h => by rw [← hAe]; exact Or.inr h
  have hS : va_S A s.heap s.heap [] := va_S.rf
  have hl := lv_entry ([.ref k0, .int (nI g), .double x]) (n := 5) (Nat.le_of_ble_eq_true rfl)
  rw [lg_entry_eq]
  generalize (lg_sl ([.ref k0, .int (nI g), .double x]) ++ List.replicate (5 - (lg_sl ([.ref k0, .int (nI g), .double x])).length) Slot.unset).toArray = ls at hl ⊢
  have hl : lv_has ls 5 [(0, .ref k0), (1, .int (nI g)), (2, .double x)] := hl
  have hinRX1 : ∀ w ∈ wsX10, w ∈ wsX1_level := by decide +kernel
  have hf_17 := hts (.fieldLink RX1 17 "HarbourBoardModel" "sizes" "[I") (by decide +kernel)
  refine lv_iload_n hx hb dX1_level_0 rfl (lv_at hl 1 rfl) ?_
  refine lv_iconst (v := nI 5) hx hb dX1_level_1 (by decide) ?_
  refine rd_calli (va_runS (As := [.int (nI g), .int (nI 5)]) (rest := []) ⟨hx, hb, hml, hown, hts⟩ (c_X1_inside l g 5 (by omega) (by omega)) (va_cwS 2 hts gX1_level_X1_outside rfl rfl rfl (by decide +kernel) ⟨Nat.le_of_ble_eq_true rfl, Nat.le_of_ble_eq_true rfl⟩) ⟨fun a U g mk q => q, fun U hU hW => ⟨rfl, trivial⟩⟩ rfl rfl hl.1 rfl (lv_room (Nat.le_of_ble_eq_true rfl)) dX1_level_2 ⟨Nat.le_of_ble_eq_true rfl, Nat.le_of_ble_eq_true rfl⟩) (fun r_1 hr_1 => ?_)
  subst hr_1
  refine kb_ne (tgt := 15) hx hb dX1_level_5 (by decide) (fun h => absurd h (by decide)) (fun _ => ?_)
  refine lv_dload_n hx hb dX1_level_8 rfl (lv_at hl 2 rfl) ?_
  refine rd_calli (va_runS (As := [.double x]) (rest := []) ⟨hx, hb, hml, hown, hts⟩ (c_X1_isLevel l x ) (va_cwS 1 hts gX1_level_X1_isLevel rfl rfl rfl (by decide +kernel) ⟨Nat.le_of_ble_eq_true rfl, Nat.le_of_ble_eq_true rfl⟩) ⟨fun a U g mk q => q, fun U hU hW => ⟨rfl, trivial⟩⟩ rfl rfl hl.1 rfl (lv_room (Nat.le_of_ble_eq_true rfl)) dX1_level_9 ⟨Nat.le_of_ble_eq_true rfl, Nat.le_of_ble_eq_true rfl⟩) (fun r_2 hr_2 => ?_)
  subst hr_2
  refine kb_ne (tgt := 19) hx hb dX1_level_12 (by decide) (fun _ => ?_) (fun h => absurd (hlv.symm.trans h) (by decide))
  refine lv_iconst (v := nI 0) hx hb dX1_level_19 (by decide) ?_
  refine lv_istore (lv' := [(4, .int (nI 0)), (0, .ref k0), (1, .int (nI g)), (2, .double x)]) hx hb dX1_level_20 hl (by decide) rfl (fun ls hl => ?_)
  refine lv_aload_n hx hb dX1_level_22 rfl (lv_at hl 1 rfl) ?_
  refine lv_iload hx hb dX1_level_23 (lv_at hl 0 rfl) ?_
  refine lv_iload hx hb dX1_level_25 (lv_at hl 0 rfl) ?_
  refine kn_ne (tgt := 47) hx hb (by decide) dX1_level_27 (by decide) (fun h => absurd h (by decide)) (fun _ => ?_)
  refine lv_aload_n hx hb dX1_level_30 rfl (lv_at hl 1 rfl) ?_
  refine va_get (D := D) (ci := 2) (v := .ref ks) (C := RX1) (T := TX1) (N := 10) hx hb hts hinRX1 hown hK hP 0 rfl rfl 3 (by decide) hf_17 (fun _ h9 => h9) rfl dX1_level_31 ?_
  refine lv_iconst (v := nI 2) hx hb dX1_level_34 (by decide) ?_
  refine lv_iload_n hx hb dX1_level_35 rfl (lv_at hl 2 rfl) ?_
  refine kn_imul hx hb dX1_level_36 ?_
  refine kn_iald hx hb hK hP 3 2 rfl rfl (by omega) (by decide) dX1_level_37 ?_
  refine lv_bipush (v := nI 12) hx hb dX1_level_38 (by decide) ?_
  refine kn_icmp_ne (tgt := 47) hx hb (by omega) (by decide) dX1_level_40 (by decide) (fun h => absurd hfull h) (fun c_x => ?_)
  refine lv_iconst (v := nI 1) hx hb dX1_level_43 (by decide) ?_
  refine lv_goto (tgt := 48) hx hb dX1_level_44 (by decide) ?_
  refine lv_iconst (v := nI 0) hx hb dX1_level_48 (by decide) ?_
  have hFc := va_free (wc := WM k0 kv ko ks km kt kp kb cZ cD cI th mv io sz mk se pv pd op mw) hD hS hA [0, 1, 2, 3, 4, 5, 6, 7] rfl
  refine wr_calli (va_runV (As := [.int (b2i false), .int (b2i true), .int (b2i false)]) (rest := []) ⟨hx, hb, hml, hown, hts⟩ (c_X1_throwing l D k0 kv ko ks km kt kp kb cZ cD cI th mv io sz mk se pv pd op mw hsz s.heap.size false true false ) (cwV 3 hts gX1_level_X1_throwing rfl rfl rfl (by decide +kernel) ⟨Nat.le_of_ble_eq_true rfl, Nat.le_of_ble_eq_true rfl⟩) ⟨fun a U g mk q => ⟨q.1, q.2.1, q.2.2.1, va_K.moved (u := U) (U := U.calling g mk a) (Vm.Alike.refl U.vm) q.2.2.2.1, q.2.2.2.2⟩, va_recv hK hP (ci := 2) (q0 := 0) rfl rfl, fun U hU hW => ⟨rfl, by rw [hU], by rw [hU]; exact hP, va_K.moved hW.alike hK, hD.weaken (fun _ _ _ _ => trivial)⟩⟩ rfl rfl hl.1 rfl (lv_room (Nat.le_of_ble_eq_true rfl)) dX1_level_49 ⟨Nat.le_of_ble_eq_true rfl, Nat.le_of_ble_eq_true rfl⟩) hS hFc (fun r_3 H locs hr_3 hP _ _ hS => ?_)
  subst hr_3
  refine kt_i (y := b2i true) rfl ?_
  have hD : va_D A (WM k0 kv ko ks km kt kp kb cZ cD cI (thr false true false) mv io sz mk se pv pd op mw) := va_D_same (ws := WM k0 kv ko ks km kt kp kb cZ cD cI th mv io sz mk se pv pd op mw) rfl hD
  have hP : va_P D vwCl (WM k0 kv ko ks km kt kp kb cZ cD cI (thr false true false) mv io sz mk se pv pd op mw) H := hP
  refine kb_eq (tgt := 57) hx hb dX1_level_52 (by decide) (fun h => absurd h (by decide)) (fun _ => ?_)
  refine lv_iconst (v := nI 0) hx hb dX1_level_55 (by decide) ?_
  refine W.widen (k := 0) (n := 0) (Nat.le_of_ble_eq_true rfl) (Nat.le_of_ble_eq_true rfl) ?_
  exact W.iret (v := nI 0) hx hb hr (fun t9 ht9 hW9 => ⟨⟨_, rfl, rfl, by rw [ht9]; exact hP⟩, hS.F ht9⟩) hS.2.2 dX1_level_56
set_option maxHeartbeats 4000000 in
set_option maxRecDepth 100000 in
theorem c_X1_wind (l : Launch) (D : va_G) (k0 kv ko ks km kt kp kb : Nat) (cZ cD cI : ClassId) (th : Nat) (mv : Nat → UInt64) (io : Nat → Bool) (sz : Nat → Nat) (mk : Nat → UInt64) (se : Nat → Bool) (pv : Nat → UInt64) (pd : Nat → Bool) (op : Bool) (mw : Int32) (hsz : ∀ j, sz j ≤ 12) (zz : Nat) (g : Nat) (x : UInt32) (hg : g < 6) (hnn : vf_n64 (FP.f2d x)) (hlv : wnM (FP.f2d x) = true) (hrm : sz (2 * g + 1) < 12) : Met l yX1_wind wsX1_wind ({ frames := 1, cells := 0, slots := 0, locals := 25 }) (va_Pc [.ref k0, .int (nI g), .float x] (fun U => U.heap.size = zz ∧ va_P D vwCl (WM k0 kv ko ks km kt kp kb cZ cD cI th mv io sz mk se pv pd op mw) U.heap ∧ va_K D vwCl (TY cZ cD cI) U ∧ va_D (fun _ => True) (WM k0 kv ko ks km kt kp kb cZ cD cI th mv io sz mk se pv pd op mw))) (wr_Qi (fun r => r = nI (sz (2 * g + 1) + 1)) (fun H => va_P D vwCl (WM k0 kv ko ks km kt kp kb cZ cD cI (thr false false false) (up mv (12 * (2 * g + 1) + sz (2 * g + 1)) (FP.f2d x)) (up io (12 * (2 * g + 1) + sz (2 * g + 1)) false) (up sz (2 * g + 1) (sz (2 * g + 1) + 1)) mk se pv pd op mw) H) (va_A (WM k0 kv ko ks km kt kp kb cZ cD cI th mv io sz mk se pv pd op mw) zz))  0 0 (va_A (WM k0 kv ko ks km kt kp kb cZ cD cI th mv io sz mk se pv pd op mw) zz) := by
  refine Met.ofW (cc := cX1_wind) (maxL := 4) (ret := some .int) (by decide) rfl ?_
  intro p e s m args below meth c s₁ B hml hv
  obtain ⟨rfl, hsz_, hP, hK, hD0⟩ := hv
  have hx := B.exec
  have hb := B.bytes
  have hr := B.returns
  have hts := atoms_spec (ws := wsX1_wind) B.pre
  have hown : s.vm.findClass RX1 = some m.cls := findClass_of_methodNamed B.named
  have hlocks := B.notSynchronized
  subst hsz_
  have hD := hD0.self (sz := s.heap.size)
  generalize hAe : va_A (WM k0 kv ko ks km kt kp kb cZ cD cI th mv io sz mk se pv pd op mw) s.heap.size = A at hD ⊢
  have hA : ∀ q : Nat, s.heap.size ≤ q → A q := fun q h => by rw [← hAe]; exact Or.inr h
  have hS : va_S A s.heap s.heap [] := va_S.rf
  have hl := lv_entry ([.ref k0, .int (nI g), .float x]) (n := 4) (Nat.le_of_ble_eq_true rfl)
  rw [lg_entry_eq]
  generalize (lg_sl ([.ref k0, .int (nI g), .float x]) ++ List.replicate (4 - (lg_sl ([.ref k0, .int (nI g), .float x])).length) Slot.unset).toArray = ls at hl ⊢
  have hl : lv_has ls 4 [(0, .ref k0), (1, .int (nI g)), (2, .float x)] := hl
  have hinRX1 : ∀ w ∈ wsX10, w ∈ wsX1_wind := by decide +kernel
  have hf_17 := hts (.fieldLink RX1 17 "HarbourBoardModel" "sizes" "[I") (by decide +kernel)
  have h1 := hsz (2 * g + 1)
  refine lv_iload_n hx hb dX1_wind_0 rfl (lv_at hl 1 rfl) ?_
  refine lv_iconst (v := nI 5) hx hb dX1_wind_1 (by decide) ?_
  refine rd_calli (va_runS (As := [.int (nI g), .int (nI 5)]) (rest := []) ⟨hx, hb, hml, hown, hts⟩ (c_X1_inside l g 5 (by omega) (by omega)) (va_cwS 2 hts gX1_wind_X1_outside rfl rfl rfl (by decide +kernel) ⟨Nat.le_of_ble_eq_true rfl, Nat.le_of_ble_eq_true rfl⟩) ⟨fun a U g mk q => q, fun U hU hW => ⟨rfl, trivial⟩⟩ rfl rfl hl.1 rfl (lv_room (Nat.le_of_ble_eq_true rfl)) dX1_wind_2 ⟨Nat.le_of_ble_eq_true rfl, Nat.le_of_ble_eq_true rfl⟩) (fun r_1 hr_1 => ?_)
  subst hr_1
  refine kb_ne (tgt := 16) hx hb dX1_wind_5 (by decide) (fun h => absurd h (by decide)) (fun _ => ?_)
  refine lv_fload_n hx hb dX1_wind_8 rfl (lv_at hl 2 rfl) ?_
  refine lv_f2d hx hb dX1_wind_9 hnn ?_
  refine rd_calli (va_runS (As := [.double (FP.f2d x)]) (rest := []) ⟨hx, hb, hml, hown, hts⟩ (c_X1_isWind l (FP.f2d x) ) (va_cwS 1 hts gX1_wind_X1_isWind rfl rfl rfl (by decide +kernel) ⟨Nat.le_of_ble_eq_true rfl, Nat.le_of_ble_eq_true rfl⟩) ⟨fun a U g mk q => q, fun U hU hW => ⟨rfl, trivial⟩⟩ rfl rfl hl.1 rfl (lv_room (Nat.le_of_ble_eq_true rfl)) dX1_wind_10 ⟨Nat.le_of_ble_eq_true rfl, Nat.le_of_ble_eq_true rfl⟩) (fun r_2 hr_2 => ?_)
  subst hr_2
  refine kb_ne (tgt := 20) hx hb dX1_wind_13 (by decide) (fun _ => ?_) (fun h => absurd (hlv.symm.trans h) (by decide))
  refine lv_iconst (v := nI 0) hx hb dX1_wind_20 (by decide) ?_
  refine lv_istore_n (lv' := [(3, .int (nI 0)), (0, .ref k0), (1, .int (nI g)), (2, .float x)]) hx hb dX1_wind_21 rfl hl (by decide) rfl (fun ls hl => ?_)
  refine lv_aload_n hx hb dX1_wind_22 rfl (lv_at hl 1 rfl) ?_
  refine lv_iload_n hx hb dX1_wind_23 rfl (lv_at hl 0 rfl) ?_
  refine lv_iload_n hx hb dX1_wind_24 rfl (lv_at hl 0 rfl) ?_
  refine kn_ne (tgt := 47) hx hb (by decide) dX1_wind_25 (by decide) (fun h => absurd h (by decide)) (fun _ => ?_)
  refine lv_aload_n hx hb dX1_wind_28 rfl (lv_at hl 1 rfl) ?_
  refine va_get (D := D) (ci := 2) (v := .ref ks) (C := RX1) (T := TX1) (N := 10) hx hb hts hinRX1 hown hK hP 0 rfl rfl 3 (by decide) hf_17 (fun _ h9 => h9) rfl dX1_wind_29 ?_
  refine lv_iconst (v := nI 2) hx hb dX1_wind_32 (by decide) ?_
  refine lv_iload_n hx hb dX1_wind_33 rfl (lv_at hl 2 rfl) ?_
  refine kn_imul hx hb dX1_wind_34 ?_
  refine lv_iconst (v := nI 1) hx hb dX1_wind_35 (by decide) ?_
  refine kn_iadd hx hb dX1_wind_36 ?_
  refine kn_iald hx hb hK hP 3 2 rfl rfl (by omega) (by decide) dX1_wind_37 ?_
  refine lv_bipush (v := nI 12) hx hb dX1_wind_38 (by decide) ?_
  refine kn_icmp_ne (tgt := 47) hx hb (by omega) (by decide) dX1_wind_40 (by decide) (fun c_x => ?_) (fun h => absurd h (by omega))
  refine lv_iconst (v := nI 0) hx hb dX1_wind_47 (by decide) ?_
  refine lv_iconst (v := nI 0) hx hb dX1_wind_48 (by decide) ?_
  have hFc := va_free (wc := WM k0 kv ko ks km kt kp kb cZ cD cI th mv io sz mk se pv pd op mw) hD hS hA [0, 1, 2, 3, 4, 5, 6, 7] rfl
  refine wr_calli (va_runV (As := [.int (b2i false), .int (b2i false), .int (b2i false)]) (rest := []) ⟨hx, hb, hml, hown, hts⟩ (c_X1_throwing l D k0 kv ko ks km kt kp kb cZ cD cI th mv io sz mk se pv pd op mw hsz s.heap.size false false false ) (cwV 3 hts gX1_wind_X1_throwing rfl rfl rfl (by decide +kernel) ⟨Nat.le_of_ble_eq_true rfl, Nat.le_of_ble_eq_true rfl⟩) ⟨fun a U g mk q => ⟨q.1, q.2.1, q.2.2.1, va_K.moved (u := U) (U := U.calling g mk a) (Vm.Alike.refl U.vm) q.2.2.2.1, q.2.2.2.2⟩, va_recv hK hP (ci := 2) (q0 := 0) rfl rfl, fun U hU hW => ⟨rfl, by rw [hU], by rw [hU]; exact hP, va_K.moved hW.alike hK, hD.weaken (fun _ _ _ _ => trivial)⟩⟩ rfl rfl hl.1 rfl (lv_room (Nat.le_of_ble_eq_true rfl)) dX1_wind_49 ⟨Nat.le_of_ble_eq_true rfl, Nat.le_of_ble_eq_true rfl⟩) hS hFc (fun r_3 H locs hr_3 hP _ _ hS => ?_)
  subst hr_3
  refine kt_i (y := b2i false) rfl ?_
  have hD : va_D A (WM k0 kv ko ks km kt kp kb cZ cD cI (thr false false false) mv io sz mk se pv pd op mw) := va_D_same (ws := WM k0 kv ko ks km kt kp kb cZ cD cI th mv io sz mk se pv pd op mw) rfl hD
  have hP : va_P D vwCl (WM k0 kv ko ks km kt kp kb cZ cD cI (thr false false false) mv io sz mk se pv pd op mw) H := hP
  refine kb_eq (tgt := 57) hx hb dX1_wind_52 (by decide) (fun _ => ?_) (fun h => absurd h (by decide))
  refine lv_aload_n hx hb dX1_wind_57 rfl (lv_at hl 1 rfl) ?_
  refine lv_iconst (v := nI 2) hx hb dX1_wind_58 (by decide) ?_
  refine lv_iload_n hx hb dX1_wind_59 rfl (lv_at hl 2 rfl) ?_
  refine kn_imul hx hb dX1_wind_60 ?_
  refine lv_iconst (v := nI 1) hx hb dX1_wind_61 (by decide) ?_
  refine kn_iadd hx hb dX1_wind_62 ?_
  refine lv_iconst (v := nI 0) hx hb dX1_wind_63 (by decide) ?_
  refine lv_fload_n hx hb dX1_wind_64 rfl (lv_at hl 3 rfl) ?_
  refine lv_f2d hx hb dX1_wind_65 hnn ?_
  have hFc := va_free (wc := WM k0 kv ko ks km kt kp kb cZ cD cI (thr false false false) mv io sz mk se pv pd op mw) hD hS hA [0, 1, 2, 3, 4, 5, 6, 7] rfl
  refine wr_calli (va_runV (As := [.int (nI ((2 * g) + 1)), .int (b2i false), .double (FP.f2d x)]) (rest := []) ⟨hx, hb, hml, hown, hts⟩ (c_X1_comes l D k0 kv ko ks km kt kp kb cZ cD cI (thr false false false) mv io sz mk se pv pd op mw hsz H.size ((2 * g) + 1) false (FP.f2d x) (by omega) (by omega)) (cwV 3 hts gX1_wind_X1_comes rfl rfl rfl (by decide +kernel) ⟨Nat.le_of_ble_eq_true rfl, Nat.le_of_ble_eq_true rfl⟩) ⟨fun a U g mk q => ⟨q.1, q.2.1, q.2.2.1, va_K.moved (u := U) (U := U.calling g mk a) (Vm.Alike.refl U.vm) q.2.2.2.1, q.2.2.2.2⟩, va_recv hK hP (ci := 2) (q0 := 0) rfl rfl, fun U hU hW => ⟨rfl, by rw [hU], by rw [hU]; exact hP, va_K.moved hW.alike hK, hD.weaken (fun _ _ _ _ => trivial)⟩⟩ rfl rfl hl.1 rfl (lv_room (Nat.le_of_ble_eq_true rfl)) dX1_wind_66 ⟨Nat.le_of_ble_eq_true rfl, Nat.le_of_ble_eq_true rfl⟩) hS hFc (fun r_4 H locs hr_4 hP _ _ hS => ?_)
  subst hr_4
  have hln_5 : ∀ j, (up sz ((2 * g) + 1) (sz ((2 * g) + 1) + 1)) j ≤ 12 := up_le hsz (by omega)
  have hD : va_D A (WM k0 kv ko ks km kt kp kb cZ cD cI (thr false false false) (up mv (12 * ((2 * g) + 1) + sz ((2 * g) + 1)) (FP.f2d x)) (up io (12 * ((2 * g) + 1) + sz ((2 * g) + 1)) false) (up sz ((2 * g) + 1) (sz ((2 * g) + 1) + 1)) mk se pv pd op mw) := va_D_same (ws := WM k0 kv ko ks km kt kp kb cZ cD cI (thr false false false) mv io sz mk se pv pd op mw) rfl hD
  have hP : va_P D vwCl (WM k0 kv ko ks km kt kp kb cZ cD cI (thr false false false) (up mv (12 * ((2 * g) + 1) + sz ((2 * g) + 1)) (FP.f2d x)) (up io (12 * ((2 * g) + 1) + sz ((2 * g) + 1)) false) (up sz ((2 * g) + 1) (sz ((2 * g) + 1) + 1)) mk se pv pd op mw) H := hP
  refine W.widen (k := 0) (n := 0) (Nat.le_of_ble_eq_true rfl) (Nat.le_of_ble_eq_true rfl) ?_
  exact W.iret (v := nI (sz ((2 * g) + 1) + 1)) hx hb hr (fun t9 ht9 hW9 => ⟨⟨_, rfl, rfl, by rw [ht9]; exact hP⟩, hS.F ht9⟩) hS.2.2 dX1_wind_69
set_option maxHeartbeats 4000000 in
set_option maxRecDepth 100000 in
theorem c_X1_wind_full (l : Launch) (D : va_G) (k0 kv ko ks km kt kp kb : Nat) (cZ cD cI : ClassId) (th : Nat) (mv : Nat → UInt64) (io : Nat → Bool) (sz : Nat → Nat) (mk : Nat → UInt64) (se : Nat → Bool) (pv : Nat → UInt64) (pd : Nat → Bool) (op : Bool) (mw : Int32) (hsz : ∀ j, sz j ≤ 12) (zz : Nat) (g : Nat) (x : UInt32) (hg : g < 6) (hnn : vf_n64 (FP.f2d x)) (hlv : wnM (FP.f2d x) = true) (hfull : sz (2 * g + 1) = 12) : Met l yX1_wind wsX1_wind ({ frames := 1, cells := 0, slots := 0, locals := 23 }) (va_Pc [.ref k0, .int (nI g), .float x] (fun U => U.heap.size = zz ∧ va_P D vwCl (WM k0 kv ko ks km kt kp kb cZ cD cI th mv io sz mk se pv pd op mw) U.heap ∧ va_K D vwCl (TY cZ cD cI) U ∧ va_D (fun _ => True) (WM k0 kv ko ks km kt kp kb cZ cD cI th mv io sz mk se pv pd op mw))) (wr_Qi (fun r => r = nI 0) (fun H => va_P D vwCl (WM k0 kv ko ks km kt kp kb cZ cD cI (thr false true false) mv io sz mk se pv pd op mw) H) (va_A (WM k0 kv ko ks km kt kp kb cZ cD cI th mv io sz mk se pv pd op mw) zz))  0 0 (va_A (WM k0 kv ko ks km kt kp kb cZ cD cI th mv io sz mk se pv pd op mw) zz) := by
  refine Met.ofW (cc := cX1_wind) (maxL := 4) (ret := some .int) (by decide) rfl ?_
  intro p e s m args below meth c s₁ B hml hv
  obtain ⟨rfl, hsz_, hP, hK, hD0⟩ := hv
  have hx := B.exec
  have hb := B.bytes
  have hr := B.returns
  have hts := atoms_spec (ws := wsX1_wind) B.pre
  have hown : s.vm.findClass RX1 = some m.cls := findClass_of_methodNamed B.named
  have hlocks := B.notSynchronized
  subst hsz_
  have hD := hD0.self (sz := s.heap.size)
  generalize hAe : va_A (WM k0 kv ko ks km kt kp kb cZ cD cI th mv io sz mk se pv pd op mw) s.heap.size = A at hD ⊢
  have hA : ∀ q : Nat, s.heap.size ≤ q → A q := fun q h => by rw [← hAe]; exact Or.inr h
  have hS : va_S A s.heap s.heap [] := va_S.rf
  have hl := lv_entry ([.ref k0, .int (nI g), .float x]) (n := 4) (Nat.le_of_ble_eq_true rfl)
  rw [lg_entry_eq]
  generalize (lg_sl ([.ref k0, .int (nI g), .float x]) ++ List.replicate (4 - (lg_sl ([.ref k0, .int (nI g), .float x])).length) Slot.unset).toArray = ls at hl ⊢
  have hl : lv_has ls 4 [(0, .ref k0), (1, .int (nI g)), (2, .float x)] := hl
  have hinRX1 : ∀ w ∈ wsX10, w ∈ wsX1_wind := by decide +kernel
  have hf_17 := hts (.fieldLink RX1 17 "HarbourBoardModel" "sizes" "[I") (by decide +kernel)
  refine lv_iload_n hx hb dX1_wind_0 rfl (lv_at hl 1 rfl) ?_
  refine lv_iconst (v := nI 5) hx hb dX1_wind_1 (by decide) ?_
  refine rd_calli (va_runS (As := [.int (nI g), .int (nI 5)]) (rest := []) ⟨hx, hb, hml, hown, hts⟩ (c_X1_inside l g 5 (by omega) (by omega)) (va_cwS 2 hts gX1_wind_X1_outside rfl rfl rfl (by decide +kernel) ⟨Nat.le_of_ble_eq_true rfl, Nat.le_of_ble_eq_true rfl⟩) ⟨fun a U g mk q => q, fun U hU hW => ⟨rfl, trivial⟩⟩ rfl rfl hl.1 rfl (lv_room (Nat.le_of_ble_eq_true rfl)) dX1_wind_2 ⟨Nat.le_of_ble_eq_true rfl, Nat.le_of_ble_eq_true rfl⟩) (fun r_1 hr_1 => ?_)
  subst hr_1
  refine kb_ne (tgt := 16) hx hb dX1_wind_5 (by decide) (fun h => absurd h (by decide)) (fun _ => ?_)
  refine lv_fload_n hx hb dX1_wind_8 rfl (lv_at hl 2 rfl) ?_
  refine lv_f2d hx hb dX1_wind_9 hnn ?_
  refine rd_calli (va_runS (As := [.double (FP.f2d x)]) (rest := []) ⟨hx, hb, hml, hown, hts⟩ (c_X1_isWind l (FP.f2d x) ) (va_cwS 1 hts gX1_wind_X1_isWind rfl rfl rfl (by decide +kernel) ⟨Nat.le_of_ble_eq_true rfl, Nat.le_of_ble_eq_true rfl⟩) ⟨fun a U g mk q => q, fun U hU hW => ⟨rfl, trivial⟩⟩ rfl rfl hl.1 rfl (lv_room (Nat.le_of_ble_eq_true rfl)) dX1_wind_10 ⟨Nat.le_of_ble_eq_true rfl, Nat.le_of_ble_eq_true rfl⟩) (fun r_2 hr_2 => ?_)
  subst hr_2
  refine kb_ne (tgt := 20) hx hb dX1_wind_13 (by decide) (fun _ => ?_) (fun h => absurd (hlv.symm.trans h) (by decide))
  refine lv_iconst (v := nI 0) hx hb dX1_wind_20 (by decide) ?_
  refine lv_istore_n (lv' := [(3, .int (nI 0)), (0, .ref k0), (1, .int (nI g)), (2, .float x)]) hx hb dX1_wind_21 rfl hl (by decide) rfl (fun ls hl => ?_)
  refine lv_aload_n hx hb dX1_wind_22 rfl (lv_at hl 1 rfl) ?_
  refine lv_iload_n hx hb dX1_wind_23 rfl (lv_at hl 0 rfl) ?_
  refine lv_iload_n hx hb dX1_wind_24 rfl (lv_at hl 0 rfl) ?_
  refine kn_ne (tgt := 47) hx hb (by decide) dX1_wind_25 (by decide) (fun h => absurd h (by decide)) (fun _ => ?_)
  refine lv_aload_n hx hb dX1_wind_28 rfl (lv_at hl 1 rfl) ?_
  refine va_get (D := D) (ci := 2) (v := .ref ks) (C := RX1) (T := TX1) (N := 10) hx hb hts hinRX1 hown hK hP 0 rfl rfl 3 (by decide) hf_17 (fun _ h9 => h9) rfl dX1_wind_29 ?_
  refine lv_iconst (v := nI 2) hx hb dX1_wind_32 (by decide) ?_
  refine lv_iload_n hx hb dX1_wind_33 rfl (lv_at hl 2 rfl) ?_
  refine kn_imul hx hb dX1_wind_34 ?_
  refine lv_iconst (v := nI 1) hx hb dX1_wind_35 (by decide) ?_
  refine kn_iadd hx hb dX1_wind_36 ?_
  refine kn_iald hx hb hK hP 3 2 rfl rfl (by omega) (by decide) dX1_wind_37 ?_
  refine lv_bipush (v := nI 12) hx hb dX1_wind_38 (by decide) ?_
  refine kn_icmp_ne (tgt := 47) hx hb (by omega) (by decide) dX1_wind_40 (by decide) (fun h => absurd hfull h) (fun c_x => ?_)
  refine lv_iconst (v := nI 1) hx hb dX1_wind_43 (by decide) ?_
  refine lv_goto (tgt := 48) hx hb dX1_wind_44 (by decide) ?_
  refine lv_iconst (v := nI 0) hx hb dX1_wind_48 (by decide) ?_
  have hFc := va_free (wc := WM k0 kv ko ks km kt kp kb cZ cD cI th mv io sz mk se pv pd op mw) hD hS hA [0, 1, 2, 3, 4, 5, 6, 7] rfl
  refine wr_calli (va_runV (As := [.int (b2i false), .int (b2i true), .int (b2i false)]) (rest := []) ⟨hx, hb, hml, hown, hts⟩ (c_X1_throwing l D k0 kv ko ks km kt kp kb cZ cD cI th mv io sz mk se pv pd op mw hsz s.heap.size false true false ) (cwV 3 hts gX1_wind_X1_throwing rfl rfl rfl (by decide +kernel) ⟨Nat.le_of_ble_eq_true rfl, Nat.le_of_ble_eq_true rfl⟩) ⟨fun a U g mk q => ⟨q.1, q.2.1, q.2.2.1, va_K.moved (u := U) (U := U.calling g mk a) (Vm.Alike.refl U.vm) q.2.2.2.1, q.2.2.2.2⟩, va_recv hK hP (ci := 2) (q0 := 0) rfl rfl, fun U hU hW => ⟨rfl, by rw [hU], by rw [hU]; exact hP, va_K.moved hW.alike hK, hD.weaken (fun _ _ _ _ => trivial)⟩⟩ rfl rfl hl.1 rfl (lv_room (Nat.le_of_ble_eq_true rfl)) dX1_wind_49 ⟨Nat.le_of_ble_eq_true rfl, Nat.le_of_ble_eq_true rfl⟩) hS hFc (fun r_3 H locs hr_3 hP _ _ hS => ?_)
  subst hr_3
  refine kt_i (y := b2i true) rfl ?_
  have hD : va_D A (WM k0 kv ko ks km kt kp kb cZ cD cI (thr false true false) mv io sz mk se pv pd op mw) := va_D_same (ws := WM k0 kv ko ks km kt kp kb cZ cD cI th mv io sz mk se pv pd op mw) rfl hD
  have hP : va_P D vwCl (WM k0 kv ko ks km kt kp kb cZ cD cI (thr false true false) mv io sz mk se pv pd op mw) H := hP
  refine kb_eq (tgt := 57) hx hb dX1_wind_52 (by decide) (fun h => absurd h (by decide)) (fun _ => ?_)
  refine lv_iconst (v := nI 0) hx hb dX1_wind_55 (by decide) ?_
  refine W.widen (k := 0) (n := 0) (Nat.le_of_ble_eq_true rfl) (Nat.le_of_ble_eq_true rfl) ?_
  exact W.iret (v := nI 0) hx hb hr (fun t9 ht9 hW9 => ⟨⟨_, rfl, rfl, by rw [ht9]; exact hP⟩, hS.F ht9⟩) hS.2.2 dX1_wind_56
set_option maxHeartbeats 4000000 in
set_option maxRecDepth 100000 in
theorem c_X1_out (l : Launch) (D : va_G) (k0 kv ko ks km kt kp kb : Nat) (cZ cD cI : ClassId) (th : Nat) (mv : Nat → UInt64) (io : Nat → Bool) (sz : Nat → Nat) (mk : Nat → UInt64) (se : Nat → Bool) (pv : Nat → UInt64) (pd : Nat → Bool) (op : Bool) (mw : Int32) (hsz : ∀ j, sz j ≤ 12) (zz : Nat) (g : Nat) (w : Nat) (hg : g < 6) (hw : w < 2) (hrm : sz (2 * g + w) < 12) : Met l yX1_out wsX1_out ({ frames := 1, cells := 0, slots := 0, locals := 25 }) (va_Pc [.ref k0, .int (nI g), .int (nI w)] (fun U => U.heap.size = zz ∧ va_P D vwCl (WM k0 kv ko ks km kt kp kb cZ cD cI th mv io sz mk se pv pd op mw) U.heap ∧ va_K D vwCl (TY cZ cD cI) U ∧ va_D (fun _ => True) (WM k0 kv ko ks km kt kp kb cZ cD cI th mv io sz mk se pv pd op mw))) (wr_Qi (fun r => r = nI (sz (2 * g + w) + 1)) (fun H => va_P D vwCl (WM k0 kv ko ks km kt kp kb cZ cD cI (thr false false false) (up mv (12 * (2 * g + w) + sz (2 * g + w)) FP.dconst0) (up io (12 * (2 * g + w) + sz (2 * g + w)) true) (up sz (2 * g + w) (sz (2 * g + w) + 1)) mk se pv pd op mw) H) (va_A (WM k0 kv ko ks km kt kp kb cZ cD cI th mv io sz mk se pv pd op mw) zz))  0 0 (va_A (WM k0 kv ko ks km kt kp kb cZ cD cI th mv io sz mk se pv pd op mw) zz) := by
  refine Met.ofW (cc := cX1_out) (maxL := 4) (ret := some .int) (by decide) rfl ?_
  intro p e s m args below meth c s₁ B hml hv
  obtain ⟨rfl, hsz_, hP, hK, hD0⟩ := hv
  have hx := B.exec
  have hb := B.bytes
  have hr := B.returns
  have hts := atoms_spec (ws := wsX1_out) B.pre
  have hown : s.vm.findClass RX1 = some m.cls := findClass_of_methodNamed B.named
  have hlocks := B.notSynchronized
  subst hsz_
  have hD := hD0.self (sz := s.heap.size)
  generalize hAe : va_A (WM k0 kv ko ks km kt kp kb cZ cD cI th mv io sz mk se pv pd op mw) s.heap.size = A at hD ⊢
  have hA : ∀ q : Nat, s.heap.size ≤ q → A q := fun q h => by rw [← hAe]; exact Or.inr h
  have hS : va_S A s.heap s.heap [] := va_S.rf
  have hl := lv_entry ([.ref k0, .int (nI g), .int (nI w)]) (n := 4) (Nat.le_of_ble_eq_true rfl)
  rw [lg_entry_eq]
  generalize (lg_sl ([.ref k0, .int (nI g), .int (nI w)]) ++ List.replicate (4 - (lg_sl ([.ref k0, .int (nI g), .int (nI w)])).length) Slot.unset).toArray = ls at hl ⊢
  have hl : lv_has ls 4 [(0, .ref k0), (1, .int (nI g)), (2, .int (nI w))] := hl
  have hinRX1 : ∀ w ∈ wsX10, w ∈ wsX1_out := by decide +kernel
  have hf_17 := hts (.fieldLink RX1 17 "HarbourBoardModel" "sizes" "[I") (by decide +kernel)
  have h1 := hsz (2 * g + w)
  refine lv_iload_n hx hb dX1_out_0 rfl (lv_at hl 1 rfl) ?_
  refine lv_iconst (v := nI 5) hx hb dX1_out_1 (by decide) ?_
  refine rd_calli (va_runS (As := [.int (nI g), .int (nI 5)]) (rest := []) ⟨hx, hb, hml, hown, hts⟩ (c_X1_inside l g 5 (by omega) (by omega)) (va_cwS 2 hts gX1_out_X1_outside rfl rfl rfl (by decide +kernel) ⟨Nat.le_of_ble_eq_true rfl, Nat.le_of_ble_eq_true rfl⟩) ⟨fun a U g mk q => q, fun U hU hW => ⟨rfl, trivial⟩⟩ rfl rfl hl.1 rfl (lv_room (Nat.le_of_ble_eq_true rfl)) dX1_out_2 ⟨Nat.le_of_ble_eq_true rfl, Nat.le_of_ble_eq_true rfl⟩) (fun r_1 hr_1 => ?_)
  subst hr_1
  refine kb_ne (tgt := 16) hx hb dX1_out_5 (by decide) (fun h => absurd h (by decide)) (fun _ => ?_)
  refine lv_iload_n hx hb dX1_out_8 rfl (lv_at hl 2 rfl) ?_
  refine lv_iconst (v := nI 1) hx hb dX1_out_9 (by decide) ?_
  refine rd_calli (va_runS (As := [.int (nI w), .int (nI 1)]) (rest := []) ⟨hx, hb, hml, hown, hts⟩ (c_X1_inside l w 1 (by omega) (by omega)) (va_cwS 2 hts gX1_out_X1_outside rfl rfl rfl (by decide +kernel) ⟨Nat.le_of_ble_eq_true rfl, Nat.le_of_ble_eq_true rfl⟩) ⟨fun a U g mk q => q, fun U hU hW => ⟨rfl, trivial⟩⟩ rfl rfl hl.1 rfl (lv_room (Nat.le_of_ble_eq_true rfl)) dX1_out_10 ⟨Nat.le_of_ble_eq_true rfl, Nat.le_of_ble_eq_true rfl⟩) (fun r_2 hr_2 => ?_)
  subst hr_2
  refine kb_eq (tgt := 20) hx hb dX1_out_13 (by decide) (fun _ => ?_) (fun h => absurd h (by decide))
  refine lv_iconst (v := nI 0) hx hb dX1_out_20 (by decide) ?_
  refine lv_istore_n (lv' := [(3, .int (nI 0)), (0, .ref k0), (1, .int (nI g)), (2, .int (nI w))]) hx hb dX1_out_21 rfl hl (by decide) rfl (fun ls hl => ?_)
  refine lv_aload_n hx hb dX1_out_22 rfl (lv_at hl 1 rfl) ?_
  refine lv_iload_n hx hb dX1_out_23 rfl (lv_at hl 0 rfl) ?_
  refine lv_iload_n hx hb dX1_out_24 rfl (lv_at hl 0 rfl) ?_
  refine kn_ne (tgt := 47) hx hb (by decide) dX1_out_25 (by decide) (fun h => absurd h (by decide)) (fun _ => ?_)
  refine lv_aload_n hx hb dX1_out_28 rfl (lv_at hl 1 rfl) ?_
  refine va_get (D := D) (ci := 2) (v := .ref ks) (C := RX1) (T := TX1) (N := 10) hx hb hts hinRX1 hown hK hP 0 rfl rfl 3 (by decide) hf_17 (fun _ h9 => h9) rfl dX1_out_29 ?_
  refine lv_iconst (v := nI 2) hx hb dX1_out_32 (by decide) ?_
  refine lv_iload_n hx hb dX1_out_33 rfl (lv_at hl 2 rfl) ?_
  refine kn_imul hx hb dX1_out_34 ?_
  refine lv_iload_n hx hb dX1_out_35 rfl (lv_at hl 3 rfl) ?_
  refine kn_iadd hx hb dX1_out_36 ?_
  refine kn_iald hx hb hK hP 3 2 rfl rfl (by omega) (by decide) dX1_out_37 ?_
  refine lv_bipush (v := nI 12) hx hb dX1_out_38 (by decide) ?_
  refine kn_icmp_ne (tgt := 47) hx hb (by omega) (by decide) dX1_out_40 (by decide) (fun c_x => ?_) (fun h => absurd h (by omega))
  refine lv_iconst (v := nI 0) hx hb dX1_out_47 (by decide) ?_
  refine lv_iconst (v := nI 0) hx hb dX1_out_48 (by decide) ?_
  have hFc := va_free (wc := WM k0 kv ko ks km kt kp kb cZ cD cI th mv io sz mk se pv pd op mw) hD hS hA [0, 1, 2, 3, 4, 5, 6, 7] rfl
  refine wr_calli (va_runV (As := [.int (b2i false), .int (b2i false), .int (b2i false)]) (rest := []) ⟨hx, hb, hml, hown, hts⟩ (c_X1_throwing l D k0 kv ko ks km kt kp kb cZ cD cI th mv io sz mk se pv pd op mw hsz s.heap.size false false false ) (cwV 3 hts gX1_out_X1_throwing rfl rfl rfl (by decide +kernel) ⟨Nat.le_of_ble_eq_true rfl, Nat.le_of_ble_eq_true rfl⟩) ⟨fun a U g mk q => ⟨q.1, q.2.1, q.2.2.1, va_K.moved (u := U) (U := U.calling g mk a) (Vm.Alike.refl U.vm) q.2.2.2.1, q.2.2.2.2⟩, va_recv hK hP (ci := 2) (q0 := 0) rfl rfl, fun U hU hW => ⟨rfl, by rw [hU], by rw [hU]; exact hP, va_K.moved hW.alike hK, hD.weaken (fun _ _ _ _ => trivial)⟩⟩ rfl rfl hl.1 rfl (lv_room (Nat.le_of_ble_eq_true rfl)) dX1_out_49 ⟨Nat.le_of_ble_eq_true rfl, Nat.le_of_ble_eq_true rfl⟩) hS hFc (fun r_3 H locs hr_3 hP _ _ hS => ?_)
  subst hr_3
  refine kt_i (y := b2i false) rfl ?_
  have hD : va_D A (WM k0 kv ko ks km kt kp kb cZ cD cI (thr false false false) mv io sz mk se pv pd op mw) := va_D_same (ws := WM k0 kv ko ks km kt kp kb cZ cD cI th mv io sz mk se pv pd op mw) rfl hD
  have hP : va_P D vwCl (WM k0 kv ko ks km kt kp kb cZ cD cI (thr false false false) mv io sz mk se pv pd op mw) H := hP
  refine kb_eq (tgt := 57) hx hb dX1_out_52 (by decide) (fun _ => ?_) (fun h => absurd h (by decide))
  refine lv_aload_n hx hb dX1_out_57 rfl (lv_at hl 1 rfl) ?_
  refine lv_iconst (v := nI 2) hx hb dX1_out_58 (by decide) ?_
  refine lv_iload_n hx hb dX1_out_59 rfl (lv_at hl 2 rfl) ?_
  refine kn_imul hx hb dX1_out_60 ?_
  refine lv_iload_n hx hb dX1_out_61 rfl (lv_at hl 3 rfl) ?_
  refine kn_iadd hx hb dX1_out_62 ?_
  refine lv_iconst (v := nI 1) hx hb dX1_out_63 (by decide) ?_
  refine lv_dconst0 hx hb dX1_out_64 ?_
  have hFc := va_free (wc := WM k0 kv ko ks km kt kp kb cZ cD cI (thr false false false) mv io sz mk se pv pd op mw) hD hS hA [0, 1, 2, 3, 4, 5, 6, 7] rfl
  refine wr_calli (va_runV (As := [.int (nI ((2 * g) + w)), .int (b2i true), .double FP.dconst0]) (rest := []) ⟨hx, hb, hml, hown, hts⟩ (c_X1_comes l D k0 kv ko ks km kt kp kb cZ cD cI (thr false false false) mv io sz mk se pv pd op mw hsz H.size ((2 * g) + w) true FP.dconst0 (by omega) (by omega)) (cwV 3 hts gX1_out_X1_comes rfl rfl rfl (by decide +kernel) ⟨Nat.le_of_ble_eq_true rfl, Nat.le_of_ble_eq_true rfl⟩) ⟨fun a U g mk q => ⟨q.1, q.2.1, q.2.2.1, va_K.moved (u := U) (U := U.calling g mk a) (Vm.Alike.refl U.vm) q.2.2.2.1, q.2.2.2.2⟩, va_recv hK hP (ci := 2) (q0 := 0) rfl rfl, fun U hU hW => ⟨rfl, by rw [hU], by rw [hU]; exact hP, va_K.moved hW.alike hK, hD.weaken (fun _ _ _ _ => trivial)⟩⟩ rfl rfl hl.1 rfl (lv_room (Nat.le_of_ble_eq_true rfl)) dX1_out_65 ⟨Nat.le_of_ble_eq_true rfl, Nat.le_of_ble_eq_true rfl⟩) hS hFc (fun r_4 H locs hr_4 hP _ _ hS => ?_)
  subst hr_4
  have hln_5 : ∀ j, (up sz ((2 * g) + w) (sz ((2 * g) + w) + 1)) j ≤ 12 := up_le hsz (by omega)
  have hD : va_D A (WM k0 kv ko ks km kt kp kb cZ cD cI (thr false false false) (up mv (12 * ((2 * g) + w) + sz ((2 * g) + w)) FP.dconst0) (up io (12 * ((2 * g) + w) + sz ((2 * g) + w)) true) (up sz ((2 * g) + w) (sz ((2 * g) + w) + 1)) mk se pv pd op mw) := va_D_same (ws := WM k0 kv ko ks km kt kp kb cZ cD cI (thr false false false) mv io sz mk se pv pd op mw) rfl hD
  have hP : va_P D vwCl (WM k0 kv ko ks km kt kp kb cZ cD cI (thr false false false) (up mv (12 * ((2 * g) + w) + sz ((2 * g) + w)) FP.dconst0) (up io (12 * ((2 * g) + w) + sz ((2 * g) + w)) true) (up sz ((2 * g) + w) (sz ((2 * g) + w) + 1)) mk se pv pd op mw) H := hP
  refine W.widen (k := 0) (n := 0) (Nat.le_of_ble_eq_true rfl) (Nat.le_of_ble_eq_true rfl) ?_
  exact W.iret (v := nI (sz ((2 * g) + w) + 1)) hx hb hr (fun t9 ht9 hW9 => ⟨⟨_, rfl, rfl, by rw [ht9]; exact hP⟩, hS.F ht9⟩) hS.2.2 dX1_out_68
set_option maxHeartbeats 4000000 in
set_option maxRecDepth 100000 in
theorem c_X1_out_full (l : Launch) (D : va_G) (k0 kv ko ks km kt kp kb : Nat) (cZ cD cI : ClassId) (th : Nat) (mv : Nat → UInt64) (io : Nat → Bool) (sz : Nat → Nat) (mk : Nat → UInt64) (se : Nat → Bool) (pv : Nat → UInt64) (pd : Nat → Bool) (op : Bool) (mw : Int32) (hsz : ∀ j, sz j ≤ 12) (zz : Nat) (g : Nat) (w : Nat) (hg : g < 6) (hw : w < 2) (hfull : sz (2 * g + w) = 12) : Met l yX1_out wsX1_out ({ frames := 1, cells := 0, slots := 0, locals := 23 }) (va_Pc [.ref k0, .int (nI g), .int (nI w)] (fun U => U.heap.size = zz ∧ va_P D vwCl (WM k0 kv ko ks km kt kp kb cZ cD cI th mv io sz mk se pv pd op mw) U.heap ∧ va_K D vwCl (TY cZ cD cI) U ∧ va_D (fun _ => True) (WM k0 kv ko ks km kt kp kb cZ cD cI th mv io sz mk se pv pd op mw))) (wr_Qi (fun r => r = nI 0) (fun H => va_P D vwCl (WM k0 kv ko ks km kt kp kb cZ cD cI (thr false true false) mv io sz mk se pv pd op mw) H) (va_A (WM k0 kv ko ks km kt kp kb cZ cD cI th mv io sz mk se pv pd op mw) zz))  0 0 (va_A (WM k0 kv ko ks km kt kp kb cZ cD cI th mv io sz mk se pv pd op mw) zz) := by
  refine Met.ofW (cc := cX1_out) (maxL := 4) (ret := some .int) (by decide) rfl ?_
  intro p e s m args below meth c s₁ B hml hv
  obtain ⟨rfl, hsz_, hP, hK, hD0⟩ := hv
  have hx := B.exec
  have hb := B.bytes
  have hr := B.returns
  have hts := atoms_spec (ws := wsX1_out) B.pre
  have hown : s.vm.findClass RX1 = some m.cls := findClass_of_methodNamed B.named
  have hlocks := B.notSynchronized
  subst hsz_
  have hD := hD0.self (sz := s.heap.size)
  generalize hAe : va_A (WM k0 kv ko ks km kt kp kb cZ cD cI th mv io sz mk se pv pd op mw) s.heap.size = A at hD ⊢
  have hA : ∀ q : Nat, s.heap.size ≤ q → A q := fun q h => by rw [← hAe]; exact Or.inr h
  have hS : va_S A s.heap s.heap [] := va_S.rf
  have hl := lv_entry ([.ref k0, .int (nI g), .int (nI w)]) (n := 4) (Nat.le_of_ble_eq_true rfl)
  rw [lg_entry_eq]
  generalize (lg_sl ([.ref k0, .int (nI g), .int (nI w)]) ++ List.replicate (4 - (lg_sl ([.ref k0, .int (nI g), .int (nI w)])).length) Slot.unset).toArray = ls at hl ⊢
  have hl : lv_has ls 4 [(0, .ref k0), (1, .int (nI g)), (2, .int (nI w))] := hl
  have hinRX1 : ∀ w ∈ wsX10, w ∈ wsX1_out := by decide +kernel
  have hf_17 := hts (.fieldLink RX1 17 "HarbourBoardModel" "sizes" "[I") (by decide +kernel)
  refine lv_iload_n hx hb dX1_out_0 rfl (lv_at hl 1 rfl) ?_
  refine lv_iconst (v := nI 5) hx hb dX1_out_1 (by decide) ?_
  refine rd_calli (va_runS (As := [.int (nI g), .int (nI 5)]) (rest := []) ⟨hx, hb, hml, hown, hts⟩ (c_X1_inside l g 5 (by omega) (by omega)) (va_cwS 2 hts gX1_out_X1_outside rfl rfl rfl (by decide +kernel) ⟨Nat.le_of_ble_eq_true rfl, Nat.le_of_ble_eq_true rfl⟩) ⟨fun a U g mk q => q, fun U hU hW => ⟨rfl, trivial⟩⟩ rfl rfl hl.1 rfl (lv_room (Nat.le_of_ble_eq_true rfl)) dX1_out_2 ⟨Nat.le_of_ble_eq_true rfl, Nat.le_of_ble_eq_true rfl⟩) (fun r_1 hr_1 => ?_)
  subst hr_1
  refine kb_ne (tgt := 16) hx hb dX1_out_5 (by decide) (fun h => absurd h (by decide)) (fun _ => ?_)
  refine lv_iload_n hx hb dX1_out_8 rfl (lv_at hl 2 rfl) ?_
  refine lv_iconst (v := nI 1) hx hb dX1_out_9 (by decide) ?_
  refine rd_calli (va_runS (As := [.int (nI w), .int (nI 1)]) (rest := []) ⟨hx, hb, hml, hown, hts⟩ (c_X1_inside l w 1 (by omega) (by omega)) (va_cwS 2 hts gX1_out_X1_outside rfl rfl rfl (by decide +kernel) ⟨Nat.le_of_ble_eq_true rfl, Nat.le_of_ble_eq_true rfl⟩) ⟨fun a U g mk q => q, fun U hU hW => ⟨rfl, trivial⟩⟩ rfl rfl hl.1 rfl (lv_room (Nat.le_of_ble_eq_true rfl)) dX1_out_10 ⟨Nat.le_of_ble_eq_true rfl, Nat.le_of_ble_eq_true rfl⟩) (fun r_2 hr_2 => ?_)
  subst hr_2
  refine kb_eq (tgt := 20) hx hb dX1_out_13 (by decide) (fun _ => ?_) (fun h => absurd h (by decide))
  refine lv_iconst (v := nI 0) hx hb dX1_out_20 (by decide) ?_
  refine lv_istore_n (lv' := [(3, .int (nI 0)), (0, .ref k0), (1, .int (nI g)), (2, .int (nI w))]) hx hb dX1_out_21 rfl hl (by decide) rfl (fun ls hl => ?_)
  refine lv_aload_n hx hb dX1_out_22 rfl (lv_at hl 1 rfl) ?_
  refine lv_iload_n hx hb dX1_out_23 rfl (lv_at hl 0 rfl) ?_
  refine lv_iload_n hx hb dX1_out_24 rfl (lv_at hl 0 rfl) ?_
  refine kn_ne (tgt := 47) hx hb (by decide) dX1_out_25 (by decide) (fun h => absurd h (by decide)) (fun _ => ?_)
  refine lv_aload_n hx hb dX1_out_28 rfl (lv_at hl 1 rfl) ?_
  refine va_get (D := D) (ci := 2) (v := .ref ks) (C := RX1) (T := TX1) (N := 10) hx hb hts hinRX1 hown hK hP 0 rfl rfl 3 (by decide) hf_17 (fun _ h9 => h9) rfl dX1_out_29 ?_
  refine lv_iconst (v := nI 2) hx hb dX1_out_32 (by decide) ?_
  refine lv_iload_n hx hb dX1_out_33 rfl (lv_at hl 2 rfl) ?_
  refine kn_imul hx hb dX1_out_34 ?_
  refine lv_iload_n hx hb dX1_out_35 rfl (lv_at hl 3 rfl) ?_
  refine kn_iadd hx hb dX1_out_36 ?_
  refine kn_iald hx hb hK hP 3 2 rfl rfl (by omega) (by decide) dX1_out_37 ?_
  refine lv_bipush (v := nI 12) hx hb dX1_out_38 (by decide) ?_
  refine kn_icmp_ne (tgt := 47) hx hb (by omega) (by decide) dX1_out_40 (by decide) (fun h => absurd hfull h) (fun c_x => ?_)
  refine lv_iconst (v := nI 1) hx hb dX1_out_43 (by decide) ?_
  refine lv_goto (tgt := 48) hx hb dX1_out_44 (by decide) ?_
  refine lv_iconst (v := nI 0) hx hb dX1_out_48 (by decide) ?_
  have hFc := va_free (wc := WM k0 kv ko ks km kt kp kb cZ cD cI th mv io sz mk se pv pd op mw) hD hS hA [0, 1, 2, 3, 4, 5, 6, 7] rfl
  refine wr_calli (va_runV (As := [.int (b2i false), .int (b2i true), .int (b2i false)]) (rest := []) ⟨hx, hb, hml, hown, hts⟩ (c_X1_throwing l D k0 kv ko ks km kt kp kb cZ cD cI th mv io sz mk se pv pd op mw hsz s.heap.size false true false ) (cwV 3 hts gX1_out_X1_throwing rfl rfl rfl (by decide +kernel) ⟨Nat.le_of_ble_eq_true rfl, Nat.le_of_ble_eq_true rfl⟩) ⟨fun a U g mk q => ⟨q.1, q.2.1, q.2.2.1, va_K.moved (u := U) (U := U.calling g mk a) (Vm.Alike.refl U.vm) q.2.2.2.1, q.2.2.2.2⟩, va_recv hK hP (ci := 2) (q0 := 0) rfl rfl, fun U hU hW => ⟨rfl, by rw [hU], by rw [hU]; exact hP, va_K.moved hW.alike hK, hD.weaken (fun _ _ _ _ => trivial)⟩⟩ rfl rfl hl.1 rfl (lv_room (Nat.le_of_ble_eq_true rfl)) dX1_out_49 ⟨Nat.le_of_ble_eq_true rfl, Nat.le_of_ble_eq_true rfl⟩) hS hFc (fun r_3 H locs hr_3 hP _ _ hS => ?_)
  subst hr_3
  refine kt_i (y := b2i true) rfl ?_
  have hD : va_D A (WM k0 kv ko ks km kt kp kb cZ cD cI (thr false true false) mv io sz mk se pv pd op mw) := va_D_same (ws := WM k0 kv ko ks km kt kp kb cZ cD cI th mv io sz mk se pv pd op mw) rfl hD
  have hP : va_P D vwCl (WM k0 kv ko ks km kt kp kb cZ cD cI (thr false true false) mv io sz mk se pv pd op mw) H := hP
  refine kb_eq (tgt := 57) hx hb dX1_out_52 (by decide) (fun h => absurd h (by decide)) (fun _ => ?_)
  refine lv_iconst (v := nI 0) hx hb dX1_out_55 (by decide) ?_
  refine W.widen (k := 0) (n := 0) (Nat.le_of_ble_eq_true rfl) (Nat.le_of_ble_eq_true rfl) ?_
  exact W.iret (v := nI 0) hx hb hr (fun t9 ht9 hW9 => ⟨⟨_, rfl, rfl, by rw [ht9]; exact hP⟩, hS.F ht9⟩) hS.2.2 dX1_out_56
set_option maxHeartbeats 4000000 in
set_option maxRecDepth 100000 in
theorem c_X1_clear (l : Launch) (D : va_G) (k0 kv ko ks km kt kp kb : Nat) (cZ cD cI : ClassId) (th : Nat) (mv : Nat → UInt64) (io : Nat → Bool) (sz : Nat → Nat) (mk : Nat → UInt64) (se : Nat → Bool) (pv : Nat → UInt64) (pd : Nat → Bool) (op : Bool) (mw : Int32) (hsz : ∀ j, sz j ≤ 12) (zz : Nat) (g : Nat) (hg : g < 6) : Met l yX1_clear wsX1_clear ({ frames := 1, cells := 0, slots := 0, locals := 23 }) (va_Pc [.ref k0, .int (nI g)] (fun U => U.heap.size = zz ∧ va_P D vwCl (WM k0 kv ko ks km kt kp kb cZ cD cI th mv io sz mk se pv pd op mw) U.heap ∧ va_K D vwCl (TY cZ cD cI) U ∧ va_D (fun _ => True) (WM k0 kv ko ks km kt kp kb cZ cD cI th mv io sz mk se pv pd op mw))) (wr_Qi (fun r => r = nI (sz (2 * g) + sz (2 * g + 1))) (fun H => va_P D vwCl (WM k0 kv ko ks km kt kp kb cZ cD cI (thr false false false) mv io (up (up sz (2 * g) 0) (2 * g + 1) 0) mk se pv pd op mw) H) (va_A (WM k0 kv ko ks km kt kp kb cZ cD cI th mv io sz mk se pv pd op mw) zz))  0 0 (va_A (WM k0 kv ko ks km kt kp kb cZ cD cI th mv io sz mk se pv pd op mw) zz) := by
  refine Met.ofW (cc := cX1_clear) (maxL := 3) (ret := some .int) (by decide) rfl ?_
  intro p e s m args below meth c s₁ B hml hv
  obtain ⟨rfl, hsz_, hP, hK, hD0⟩ := hv
  have hx := B.exec
  have hb := B.bytes
  have hr := B.returns
  have hts := atoms_spec (ws := wsX1_clear) B.pre
  have hown : s.vm.findClass RX1 = some m.cls := findClass_of_methodNamed B.named
  have hlocks := B.notSynchronized
  subst hsz_
  have hD := hD0.self (sz := s.heap.size)
  generalize hAe : va_A (WM k0 kv ko ks km kt kp kb cZ cD cI th mv io sz mk se pv pd op mw) s.heap.size = A at hD ⊢
  have hA : ∀ q : Nat, s.heap.size ≤ q → A q := fun q h => by rw [← hAe]; exact Or.inr h
  have hS : va_S A s.heap s.heap [] := va_S.rf
  have hl := lv_entry ([.ref k0, .int (nI g)]) (n := 3) (Nat.le_of_ble_eq_true rfl)
  rw [lg_entry_eq]
  generalize (lg_sl ([.ref k0, .int (nI g)]) ++ List.replicate (3 - (lg_sl ([.ref k0, .int (nI g)])).length) Slot.unset).toArray = ls at hl ⊢
  have hl : lv_has ls 3 [(0, .ref k0), (1, .int (nI g))] := hl
  have hinRX1 : ∀ w ∈ wsX10, w ∈ wsX1_clear := by decide +kernel
  have hf_17 := hts (.fieldLink RX1 17 "HarbourBoardModel" "sizes" "[I") (by decide +kernel)
  have h1 := hsz (2 * g)
  have h2 := hsz (2 * g + 1)
  refine lv_aload_n hx hb dX1_clear_0 rfl (lv_at hl 0 rfl) ?_
  refine lv_iload_n hx hb dX1_clear_1 rfl (lv_at hl 1 rfl) ?_
  refine lv_iconst (v := nI 5) hx hb dX1_clear_2 (by decide) ?_
  refine rd_calli (va_runS (As := [.int (nI g), .int (nI 5)]) (rest := [.ref k0]) ⟨hx, hb, hml, hown, hts⟩ (c_X1_inside l g 5 (by omega) (by omega)) (va_cwS 2 hts gX1_clear_X1_outside rfl rfl rfl (by decide +kernel) ⟨Nat.le_of_ble_eq_true rfl, Nat.le_of_ble_eq_true rfl⟩) ⟨fun a U g mk q => q, fun U hU hW => ⟨rfl, trivial⟩⟩ rfl rfl hl.1 rfl (lv_room (Nat.le_of_ble_eq_true rfl)) dX1_clear_3 ⟨Nat.le_of_ble_eq_true rfl, Nat.le_of_ble_eq_true rfl⟩) (fun r_1 hr_1 => ?_)
  subst hr_1
  refine lv_iconst (v := nI 0) hx hb dX1_clear_6 (by decide) ?_
  refine lv_iconst (v := nI 0) hx hb dX1_clear_7 (by decide) ?_
  have hFc := va_free (wc := WM k0 kv ko ks km kt kp kb cZ cD cI th mv io sz mk se pv pd op mw) hD hS hA [0, 1, 2, 3, 4, 5, 6, 7] rfl
  refine wr_calli (va_runV (As := [.int (b2i false), .int (b2i false), .int (b2i false)]) (rest := []) ⟨hx, hb, hml, hown, hts⟩ (c_X1_throwing l D k0 kv ko ks km kt kp kb cZ cD cI th mv io sz mk se pv pd op mw hsz s.heap.size false false false ) (cwV 3 hts gX1_clear_X1_throwing rfl rfl rfl (by decide +kernel) ⟨Nat.le_of_ble_eq_true rfl, Nat.le_of_ble_eq_true rfl⟩) ⟨fun a U g mk q => ⟨q.1, q.2.1, q.2.2.1, va_K.moved (u := U) (U := U.calling g mk a) (Vm.Alike.refl U.vm) q.2.2.2.1, q.2.2.2.2⟩, va_recv hK hP (ci := 2) (q0 := 0) rfl rfl, fun U hU hW => ⟨rfl, by rw [hU], by rw [hU]; exact hP, va_K.moved hW.alike hK, hD.weaken (fun _ _ _ _ => trivial)⟩⟩ rfl rfl hl.1 rfl (lv_room (Nat.le_of_ble_eq_true rfl)) dX1_clear_8 ⟨Nat.le_of_ble_eq_true rfl, Nat.le_of_ble_eq_true rfl⟩) hS hFc (fun r_2 H locs hr_2 hP _ _ hS => ?_)
  subst hr_2
  refine kt_i (y := b2i false) rfl ?_
  have hD : va_D A (WM k0 kv ko ks km kt kp kb cZ cD cI (thr false false false) mv io sz mk se pv pd op mw) := va_D_same (ws := WM k0 kv ko ks km kt kp kb cZ cD cI th mv io sz mk se pv pd op mw) rfl hD
  have hP : va_P D vwCl (WM k0 kv ko ks km kt kp kb cZ cD cI (thr false false false) mv io sz mk se pv pd op mw) H := hP
  refine kb_eq (tgt := 16) hx hb dX1_clear_11 (by decide) (fun _ => ?_) (fun h => absurd h (by decide))
  refine lv_aload_n hx hb dX1_clear_16 rfl (lv_at hl 0 rfl) ?_
  refine va_get (D := D) (ci := 2) (v := .ref ks) (C := RX1) (T := TX1) (N := 10) hx hb hts hinRX1 hown hK hP 0 rfl rfl 3 (by decide) hf_17 (fun _ h9 => h9) rfl dX1_clear_17 ?_
  refine lv_iconst (v := nI 2) hx hb dX1_clear_20 (by decide) ?_
  refine lv_iload_n hx hb dX1_clear_21 rfl (lv_at hl 1 rfl) ?_
  refine kn_imul hx hb dX1_clear_22 ?_
  refine kn_iald hx hb hK hP 3 2 rfl rfl (by omega) (by decide) dX1_clear_23 ?_
  refine lv_aload_n hx hb dX1_clear_24 rfl (lv_at hl 0 rfl) ?_
  refine va_get (D := D) (ci := 2) (v := .ref ks) (C := RX1) (T := TX1) (N := 10) hx hb hts hinRX1 hown hK hP 0 rfl rfl 3 (by decide) hf_17 (fun _ h9 => h9) rfl dX1_clear_25 ?_
  refine lv_iconst (v := nI 2) hx hb dX1_clear_28 (by decide) ?_
  refine lv_iload_n hx hb dX1_clear_29 rfl (lv_at hl 1 rfl) ?_
  refine kn_imul hx hb dX1_clear_30 ?_
  refine lv_iconst (v := nI 1) hx hb dX1_clear_31 (by decide) ?_
  refine kn_iadd hx hb dX1_clear_32 ?_
  refine kn_iald hx hb hK hP 3 2 rfl rfl (by omega) (by decide) dX1_clear_33 ?_
  refine kn_iadd hx hb dX1_clear_34 ?_
  refine lv_istore_n (lv' := [(2, .int (nI ((sz (2 * g)) + (sz ((2 * g) + 1))))), (0, .ref k0), (1, .int (nI g))]) hx hb dX1_clear_35 rfl hl (by decide) rfl (fun ls hl => ?_)
  refine lv_aload_n hx hb dX1_clear_36 rfl (lv_at hl 1 rfl) ?_
  refine va_get (D := D) (ci := 2) (v := .ref ks) (C := RX1) (T := TX1) (N := 10) hx hb hts hinRX1 hown hK hP 0 rfl rfl 3 (by decide) hf_17 (fun _ h9 => h9) rfl dX1_clear_37 ?_
  refine lv_iconst (v := nI 2) hx hb dX1_clear_40 (by decide) ?_
  refine lv_iload_n hx hb dX1_clear_41 rfl (lv_at hl 2 rfl) ?_
  refine kn_imul hx hb dX1_clear_42 ?_
  refine lv_iconst (v := nI 0) hx hb dX1_clear_43 (by decide) ?_
  refine kn_iast hx hb hK hP hD hS 3 2 rfl rfl (by omega) (by decide) dX1_clear_44 (fun H locs hP hD hS => ?_)
  have hP : va_P D vwCl (WM k0 kv ko ks km kt kp kb cZ cD cI (thr false false false) mv io (up sz (2 * g) 0) mk se pv pd op mw) H := hP
  have hD : va_D A (WM k0 kv ko ks km kt kp kb cZ cD cI (thr false false false) mv io (up sz (2 * g) 0) mk se pv pd op mw) := hD
  refine lv_aload_n hx hb dX1_clear_45 rfl (lv_at hl 1 rfl) ?_
  refine va_get (D := D) (ci := 2) (v := .ref ks) (C := RX1) (T := TX1) (N := 10) hx hb hts hinRX1 hown hK hP 0 rfl rfl 3 (by decide) hf_17 (fun _ h9 => h9) rfl dX1_clear_46 ?_
  refine lv_iconst (v := nI 2) hx hb dX1_clear_49 (by decide) ?_
  refine lv_iload_n hx hb dX1_clear_50 rfl (lv_at hl 2 rfl) ?_
  refine kn_imul hx hb dX1_clear_51 ?_
  refine lv_iconst (v := nI 1) hx hb dX1_clear_52 (by decide) ?_
  refine kn_iadd hx hb dX1_clear_53 ?_
  refine lv_iconst (v := nI 0) hx hb dX1_clear_54 (by decide) ?_
  refine kn_iast hx hb hK hP hD hS 3 2 rfl rfl (by omega) (by decide) dX1_clear_55 (fun H locs hP hD hS => ?_)
  have hP : va_P D vwCl (WM k0 kv ko ks km kt kp kb cZ cD cI (thr false false false) mv io (up (up sz (2 * g) 0) ((2 * g) + 1) 0) mk se pv pd op mw) H := hP
  have hD : va_D A (WM k0 kv ko ks km kt kp kb cZ cD cI (thr false false false) mv io (up (up sz (2 * g) 0) ((2 * g) + 1) 0) mk se pv pd op mw) := hD
  refine lv_iload_n hx hb dX1_clear_56 rfl (lv_at hl 0 rfl) ?_
  refine W.widen (k := 0) (n := 0) (Nat.le_of_ble_eq_true rfl) (Nat.le_of_ble_eq_true rfl) ?_
  exact W.iret (v := nI ((sz (2 * g)) + (sz ((2 * g) + 1)))) hx hb hr (fun t9 ht9 hW9 => ⟨⟨_, rfl, rfl, by rw [ht9]; exact hP⟩, hS.F ht9⟩) hS.2.2 dX1_clear_57
set_option maxHeartbeats 4000000 in
set_option maxRecDepth 100000 in
theorem c_X1_mark (l : Launch) (D : va_G) (k0 kv ko ks km kt kp kb : Nat) (cZ cD cI : ClassId) (th : Nat) (mv : Nat → UInt64) (io : Nat → Bool) (sz : Nat → Nat) (mk : Nat → UInt64) (se : Nat → Bool) (pv : Nat → UInt64) (pd : Nat → Bool) (op : Bool) (mw : Int32) (hsz : ∀ j, sz j ≤ 12) (zz : Nat) (g : Nat) (k : Nat) (x : UInt64) (hg : g < 6) (hk : k < 2) (hlv : lvl x = true) : Met l yX1_mark wsX1_mark ({ frames := 1, cells := 0, slots := 0, locals := 25 }) (va_Pc [.ref k0, .int (nI g), .int (nI k), .double x] (fun U => U.heap.size = zz ∧ va_P D vwCl (WM k0 kv ko ks km kt kp kb cZ cD cI th mv io sz mk se pv pd op mw) U.heap ∧ va_K D vwCl (TY cZ cD cI) U ∧ va_D (fun _ => True) (WM k0 kv ko ks km kt kp kb cZ cD cI th mv io sz mk se pv pd op mw))) (wr_Qi (fun r => r = b2i (se (3 * g + k))) (fun H => va_P D vwCl (WM k0 kv ko ks km kt kp kb cZ cD cI (thr false false false) mv io sz (up mk (3 * g + k) x) (up se (3 * g + k) true) pv pd op mw) H) (va_A (WM k0 kv ko ks km kt kp kb cZ cD cI th mv io sz mk se pv pd op mw) zz))  0 0 (va_A (WM k0 kv ko ks km kt kp kb cZ cD cI th mv io sz mk se pv pd op mw) zz) := by
  refine Met.ofW (cc := cX1_mark) (maxL := 5) (ret := some .boolean) (by decide) rfl ?_
  intro p e s m args below meth c s₁ B hml hv
  obtain ⟨rfl, hsz_, hP, hK, hD0⟩ := hv
  have hx := B.exec
  have hb := B.bytes
  have hr := B.returns
  have hts := atoms_spec (ws := wsX1_mark) B.pre
  have hown : s.vm.findClass RX1 = some m.cls := findClass_of_methodNamed B.named
  have hlocks := B.notSynchronized
  subst hsz_
  have hD := hD0.self (sz := s.heap.size)
  generalize hAe : va_A (WM k0 kv ko ks km kt kp kb cZ cD cI th mv io sz mk se pv pd op mw) s.heap.size = A at hD ⊢
  have hA : ∀ q : Nat, s.heap.size ≤ q → A q := fun q h => by rw [← hAe]; exact Or.inr h
  have hS : va_S A s.heap s.heap [] := va_S.rf
  have hl := lv_entry ([.ref k0, .int (nI g), .int (nI k), .double x]) (n := 5) (Nat.le_of_ble_eq_true rfl)
  rw [lg_entry_eq]
  generalize (lg_sl ([.ref k0, .int (nI g), .int (nI k), .double x]) ++ List.replicate (5 - (lg_sl ([.ref k0, .int (nI g), .int (nI k), .double x])).length) Slot.unset).toArray = ls at hl ⊢
  have hl : lv_has ls 5 [(0, .ref k0), (1, .int (nI g)), (2, .int (nI k)), (3, .double x)] := hl
  refine lv_aload_n hx hb dX1_mark_0 rfl (lv_at hl 0 rfl) ?_
  refine lv_iload_n hx hb dX1_mark_1 rfl (lv_at hl 1 rfl) ?_
  refine lv_iconst (v := nI 5) hx hb dX1_mark_2 (by decide) ?_
  refine rd_calli (va_runS (As := [.int (nI g), .int (nI 5)]) (rest := [.ref k0]) ⟨hx, hb, hml, hown, hts⟩ (c_X1_inside l g 5 (by omega) (by omega)) (va_cwS 2 hts gX1_mark_X1_outside rfl rfl rfl (by decide +kernel) ⟨Nat.le_of_ble_eq_true rfl, Nat.le_of_ble_eq_true rfl⟩) ⟨fun a U g mk q => q, fun U hU hW => ⟨rfl, trivial⟩⟩ rfl rfl hl.1 rfl (lv_room (Nat.le_of_ble_eq_true rfl)) dX1_mark_3 ⟨Nat.le_of_ble_eq_true rfl, Nat.le_of_ble_eq_true rfl⟩) (fun r_1 hr_1 => ?_)
  subst hr_1
  refine kb_ne (tgt := 24) hx hb dX1_mark_6 (by decide) (fun h => absurd h (by decide)) (fun _ => ?_)
  refine lv_iload_n hx hb dX1_mark_9 rfl (lv_at hl 2 rfl) ?_
  refine lv_iconst (v := nI 1) hx hb dX1_mark_10 (by decide) ?_
  refine rd_calli (va_runS (As := [.int (nI k), .int (nI 1)]) (rest := [.ref k0]) ⟨hx, hb, hml, hown, hts⟩ (c_X1_inside l k 1 (by omega) (by omega)) (va_cwS 2 hts gX1_mark_X1_outside rfl rfl rfl (by decide +kernel) ⟨Nat.le_of_ble_eq_true rfl, Nat.le_of_ble_eq_true rfl⟩) ⟨fun a U g mk q => q, fun U hU hW => ⟨rfl, trivial⟩⟩ rfl rfl hl.1 rfl (lv_room (Nat.le_of_ble_eq_true rfl)) dX1_mark_11 ⟨Nat.le_of_ble_eq_true rfl, Nat.le_of_ble_eq_true rfl⟩) (fun r_2 hr_2 => ?_)
  subst hr_2
  refine kb_ne (tgt := 24) hx hb dX1_mark_14 (by decide) (fun h => absurd h (by decide)) (fun _ => ?_)
  refine lv_dload_n hx hb dX1_mark_17 rfl (lv_at hl 3 rfl) ?_
  refine rd_calli (va_runS (As := [.double x]) (rest := [.ref k0]) ⟨hx, hb, hml, hown, hts⟩ (c_X1_isLevel l x ) (va_cwS 1 hts gX1_mark_X1_isLevel rfl rfl rfl (by decide +kernel) ⟨Nat.le_of_ble_eq_true rfl, Nat.le_of_ble_eq_true rfl⟩) ⟨fun a U g mk q => q, fun U hU hW => ⟨rfl, trivial⟩⟩ rfl rfl hl.1 rfl (lv_room (Nat.le_of_ble_eq_true rfl)) dX1_mark_18 ⟨Nat.le_of_ble_eq_true rfl, Nat.le_of_ble_eq_true rfl⟩) (fun r_3 hr_3 => ?_)
  subst hr_3
  refine kb_ne (tgt := 28) hx hb dX1_mark_21 (by decide) (fun _ => ?_) (fun h => absurd (hlv.symm.trans h) (by decide))
  refine lv_iconst (v := nI 0) hx hb dX1_mark_28 (by decide) ?_
  refine lv_iconst (v := nI 0) hx hb dX1_mark_29 (by decide) ?_
  refine lv_iconst (v := nI 0) hx hb dX1_mark_30 (by decide) ?_
  have hFc := va_free (wc := WM k0 kv ko ks km kt kp kb cZ cD cI th mv io sz mk se pv pd op mw) hD hS hA [0, 1, 2, 3, 4, 5, 6, 7] rfl
  refine wr_calli (va_runV (As := [.int (b2i false), .int (b2i false), .int (b2i false)]) (rest := []) ⟨hx, hb, hml, hown, hts⟩ (c_X1_throwing l D k0 kv ko ks km kt kp kb cZ cD cI th mv io sz mk se pv pd op mw hsz s.heap.size false false false ) (cwV 3 hts gX1_mark_X1_throwing rfl rfl rfl (by decide +kernel) ⟨Nat.le_of_ble_eq_true rfl, Nat.le_of_ble_eq_true rfl⟩) ⟨fun a U g mk q => ⟨q.1, q.2.1, q.2.2.1, va_K.moved (u := U) (U := U.calling g mk a) (Vm.Alike.refl U.vm) q.2.2.2.1, q.2.2.2.2⟩, va_recv hK hP (ci := 2) (q0 := 0) rfl rfl, fun U hU hW => ⟨rfl, by rw [hU], by rw [hU]; exact hP, va_K.moved hW.alike hK, hD.weaken (fun _ _ _ _ => trivial)⟩⟩ rfl rfl hl.1 rfl (lv_room (Nat.le_of_ble_eq_true rfl)) dX1_mark_31 ⟨Nat.le_of_ble_eq_true rfl, Nat.le_of_ble_eq_true rfl⟩) hS hFc (fun r_4 H locs hr_4 hP _ _ hS => ?_)
  subst hr_4
  refine kt_i (y := b2i false) rfl ?_
  have hD : va_D A (WM k0 kv ko ks km kt kp kb cZ cD cI (thr false false false) mv io sz mk se pv pd op mw) := va_D_same (ws := WM k0 kv ko ks km kt kp kb cZ cD cI th mv io sz mk se pv pd op mw) rfl hD
  have hP : va_P D vwCl (WM k0 kv ko ks km kt kp kb cZ cD cI (thr false false false) mv io sz mk se pv pd op mw) H := hP
  refine kb_eq (tgt := 39) hx hb dX1_mark_34 (by decide) (fun _ => ?_) (fun h => absurd h (by decide))
  refine lv_aload_n hx hb dX1_mark_39 rfl (lv_at hl 0 rfl) ?_
  refine lv_iconst (v := nI 3) hx hb dX1_mark_40 (by decide) ?_
  refine lv_iload_n hx hb dX1_mark_41 rfl (lv_at hl 1 rfl) ?_
  refine kn_imul hx hb dX1_mark_42 ?_
  refine lv_iload_n hx hb dX1_mark_43 rfl (lv_at hl 2 rfl) ?_
  refine kn_iadd hx hb dX1_mark_44 ?_
  refine lv_iconst (v := nI 1) hx hb dX1_mark_45 (by decide) ?_
  refine lv_dload_n hx hb dX1_mark_46 rfl (lv_at hl 3 rfl) ?_
  have hFc := va_free (wc := WM k0 kv ko ks km kt kp kb cZ cD cI (thr false false false) mv io sz mk se pv pd op mw) hD hS hA [0, 1, 2, 3, 4, 5, 6, 7] rfl
  refine wr_calli (va_runV (As := [.int (nI ((3 * g) + k)), .int (b2i true), .double x]) (rest := []) ⟨hx, hb, hml, hown, hts⟩ (c_X1_marks l D k0 kv ko ks km kt kp kb cZ cD cI (thr false false false) mv io sz mk se pv pd op mw hsz H.size ((3 * g) + k) true x (by omega)) (cwV 3 hts gX1_mark_X1_marks rfl rfl rfl (by decide +kernel) ⟨Nat.le_of_ble_eq_true rfl, Nat.le_of_ble_eq_true rfl⟩) ⟨fun a U g mk q => ⟨q.1, q.2.1, q.2.2.1, va_K.moved (u := U) (U := U.calling g mk a) (Vm.Alike.refl U.vm) q.2.2.2.1, q.2.2.2.2⟩, va_recv hK hP (ci := 2) (q0 := 0) rfl rfl, fun U hU hW => ⟨rfl, by rw [hU], by rw [hU]; exact hP, va_K.moved hW.alike hK, hD.weaken (fun _ _ _ _ => trivial)⟩⟩ rfl rfl hl.1 rfl (lv_room (Nat.le_of_ble_eq_true rfl)) dX1_mark_47 ⟨Nat.le_of_ble_eq_true rfl, Nat.le_of_ble_eq_true rfl⟩) hS hFc (fun r_5 H locs hr_5 hP _ _ hS => ?_)
  subst hr_5
  have hD : va_D A (WM k0 kv ko ks km kt kp kb cZ cD cI (thr false false false) mv io sz (up mk ((3 * g) + k) x) (up se ((3 * g) + k) true) pv pd op mw) := va_D_same (ws := WM k0 kv ko ks km kt kp kb cZ cD cI (thr false false false) mv io sz mk se pv pd op mw) rfl hD
  have hP : va_P D vwCl (WM k0 kv ko ks km kt kp kb cZ cD cI (thr false false false) mv io sz (up mk ((3 * g) + k) x) (up se ((3 * g) + k) true) pv pd op mw) H := hP
  refine W.widen (k := 0) (n := 0) (Nat.le_of_ble_eq_true rfl) (Nat.le_of_ble_eq_true rfl) ?_
  exact W.zret (v := b2i (se ((3 * g) + k))) hx hb hr (b2i_nar _) (fun t9 ht9 hW9 => ⟨⟨_, rfl, rfl, by rw [ht9]; exact hP⟩, hS.F ht9⟩) hS.2.2 dX1_mark_50
set_option maxHeartbeats 4000000 in
set_option maxRecDepth 100000 in
theorem c_X1_gale (l : Launch) (D : va_G) (k0 kv ko ks km kt kp kb : Nat) (cZ cD cI : ClassId) (th : Nat) (mv : Nat → UInt64) (io : Nat → Bool) (sz : Nat → Nat) (mk : Nat → UInt64) (se : Nat → Bool) (pv : Nat → UInt64) (pd : Nat → Bool) (op : Bool) (mw : Int32) (hsz : ∀ j, sz j ≤ 12) (zz : Nat) (g : Nat) (x : UInt32) (hg : g < 6) (hnn : vf_n64 (FP.f2d x)) (hlv : wnM (FP.f2d x) = true) : Met l yX1_gale wsX1_gale ({ frames := 1, cells := 0, slots := 0, locals := 25 }) (va_Pc [.ref k0, .int (nI g), .float x] (fun U => U.heap.size = zz ∧ va_P D vwCl (WM k0 kv ko ks km kt kp kb cZ cD cI th mv io sz mk se pv pd op mw) U.heap ∧ va_K D vwCl (TY cZ cD cI) U ∧ va_D (fun _ => True) (WM k0 kv ko ks km kt kp kb cZ cD cI th mv io sz mk se pv pd op mw))) (wr_Qi (fun r => r = b2i (se (3 * g + 2))) (fun H => va_P D vwCl (WM k0 kv ko ks km kt kp kb cZ cD cI (thr false false false) mv io sz (up mk (3 * g + 2) (FP.f2d x)) (up se (3 * g + 2) true) pv pd op mw) H) (va_A (WM k0 kv ko ks km kt kp kb cZ cD cI th mv io sz mk se pv pd op mw) zz))  0 0 (va_A (WM k0 kv ko ks km kt kp kb cZ cD cI th mv io sz mk se pv pd op mw) zz) := by
  refine Met.ofW (cc := cX1_gale) (maxL := 3) (ret := some .boolean) (by decide) rfl ?_
  intro p e s m args below meth c s₁ B hml hv
  obtain ⟨rfl, hsz_, hP, hK, hD0⟩ := hv
  have hx := B.exec
  have hb := B.bytes
  have hr := B.returns
  have hts := atoms_spec (ws := wsX1_gale) B.pre
  have hown : s.vm.findClass RX1 = some m.cls := findClass_of_methodNamed B.named
  have hlocks := B.notSynchronized
  subst hsz_
  have hD := hD0.self (sz := s.heap.size)
  generalize hAe : va_A (WM k0 kv ko ks km kt kp kb cZ cD cI th mv io sz mk se pv pd op mw) s.heap.size = A at hD ⊢
  have hA : ∀ q : Nat, s.heap.size ≤ q → A q := fun q h => by rw [← hAe]; exact Or.inr h
  have hS : va_S A s.heap s.heap [] := va_S.rf
  have hl := lv_entry ([.ref k0, .int (nI g), .float x]) (n := 3) (Nat.le_of_ble_eq_true rfl)
  rw [lg_entry_eq]
  generalize (lg_sl ([.ref k0, .int (nI g), .float x]) ++ List.replicate (3 - (lg_sl ([.ref k0, .int (nI g), .float x])).length) Slot.unset).toArray = ls at hl ⊢
  have hl : lv_has ls 3 [(0, .ref k0), (1, .int (nI g)), (2, .float x)] := hl
  refine lv_aload_n hx hb dX1_gale_0 rfl (lv_at hl 0 rfl) ?_
  refine lv_iload_n hx hb dX1_gale_1 rfl (lv_at hl 1 rfl) ?_
  refine lv_iconst (v := nI 5) hx hb dX1_gale_2 (by decide) ?_
  refine rd_calli (va_runS (As := [.int (nI g), .int (nI 5)]) (rest := [.ref k0]) ⟨hx, hb, hml, hown, hts⟩ (c_X1_inside l g 5 (by omega) (by omega)) (va_cwS 2 hts gX1_gale_X1_outside rfl rfl rfl (by decide +kernel) ⟨Nat.le_of_ble_eq_true rfl, Nat.le_of_ble_eq_true rfl⟩) ⟨fun a U g mk q => q, fun U hU hW => ⟨rfl, trivial⟩⟩ rfl rfl hl.1 rfl (lv_room (Nat.le_of_ble_eq_true rfl)) dX1_gale_3 ⟨Nat.le_of_ble_eq_true rfl, Nat.le_of_ble_eq_true rfl⟩) (fun r_1 hr_1 => ?_)
  subst hr_1
  refine kb_ne (tgt := 17) hx hb dX1_gale_6 (by decide) (fun h => absurd h (by decide)) (fun _ => ?_)
  refine lv_fload_n hx hb dX1_gale_9 rfl (lv_at hl 2 rfl) ?_
  refine lv_f2d hx hb dX1_gale_10 hnn ?_
  refine rd_calli (va_runS (As := [.double (FP.f2d x)]) (rest := [.ref k0]) ⟨hx, hb, hml, hown, hts⟩ (c_X1_isWind l (FP.f2d x) ) (va_cwS 1 hts gX1_gale_X1_isWind rfl rfl rfl (by decide +kernel) ⟨Nat.le_of_ble_eq_true rfl, Nat.le_of_ble_eq_true rfl⟩) ⟨fun a U g mk q => q, fun U hU hW => ⟨rfl, trivial⟩⟩ rfl rfl hl.1 rfl (lv_room (Nat.le_of_ble_eq_true rfl)) dX1_gale_11 ⟨Nat.le_of_ble_eq_true rfl, Nat.le_of_ble_eq_true rfl⟩) (fun r_2 hr_2 => ?_)
  subst hr_2
  refine kb_ne (tgt := 21) hx hb dX1_gale_14 (by decide) (fun _ => ?_) (fun h => absurd (hlv.symm.trans h) (by decide))
  refine lv_iconst (v := nI 0) hx hb dX1_gale_21 (by decide) ?_
  refine lv_iconst (v := nI 0) hx hb dX1_gale_22 (by decide) ?_
  refine lv_iconst (v := nI 0) hx hb dX1_gale_23 (by decide) ?_
  have hFc := va_free (wc := WM k0 kv ko ks km kt kp kb cZ cD cI th mv io sz mk se pv pd op mw) hD hS hA [0, 1, 2, 3, 4, 5, 6, 7] rfl
  refine wr_calli (va_runV (As := [.int (b2i false), .int (b2i false), .int (b2i false)]) (rest := []) ⟨hx, hb, hml, hown, hts⟩ (c_X1_throwing l D k0 kv ko ks km kt kp kb cZ cD cI th mv io sz mk se pv pd op mw hsz s.heap.size false false false ) (cwV 3 hts gX1_gale_X1_throwing rfl rfl rfl (by decide +kernel) ⟨Nat.le_of_ble_eq_true rfl, Nat.le_of_ble_eq_true rfl⟩) ⟨fun a U g mk q => ⟨q.1, q.2.1, q.2.2.1, va_K.moved (u := U) (U := U.calling g mk a) (Vm.Alike.refl U.vm) q.2.2.2.1, q.2.2.2.2⟩, va_recv hK hP (ci := 2) (q0 := 0) rfl rfl, fun U hU hW => ⟨rfl, by rw [hU], by rw [hU]; exact hP, va_K.moved hW.alike hK, hD.weaken (fun _ _ _ _ => trivial)⟩⟩ rfl rfl hl.1 rfl (lv_room (Nat.le_of_ble_eq_true rfl)) dX1_gale_24 ⟨Nat.le_of_ble_eq_true rfl, Nat.le_of_ble_eq_true rfl⟩) hS hFc (fun r_3 H locs hr_3 hP _ _ hS => ?_)
  subst hr_3
  refine kt_i (y := b2i false) rfl ?_
  have hD : va_D A (WM k0 kv ko ks km kt kp kb cZ cD cI (thr false false false) mv io sz mk se pv pd op mw) := va_D_same (ws := WM k0 kv ko ks km kt kp kb cZ cD cI th mv io sz mk se pv pd op mw) rfl hD
  have hP : va_P D vwCl (WM k0 kv ko ks km kt kp kb cZ cD cI (thr false false false) mv io sz mk se pv pd op mw) H := hP
  refine kb_eq (tgt := 32) hx hb dX1_gale_27 (by decide) (fun _ => ?_) (fun h => absurd h (by decide))
  refine lv_aload_n hx hb dX1_gale_32 rfl (lv_at hl 0 rfl) ?_
  refine lv_iconst (v := nI 3) hx hb dX1_gale_33 (by decide) ?_
  refine lv_iload_n hx hb dX1_gale_34 rfl (lv_at hl 1 rfl) ?_
  refine kn_imul hx hb dX1_gale_35 ?_
  refine lv_iconst (v := nI 2) hx hb dX1_gale_36 (by decide) ?_
  refine kn_iadd hx hb dX1_gale_37 ?_
  refine lv_iconst (v := nI 1) hx hb dX1_gale_38 (by decide) ?_
  refine lv_fload_n hx hb dX1_gale_39 rfl (lv_at hl 2 rfl) ?_
  refine lv_f2d hx hb dX1_gale_40 hnn ?_
  have hFc := va_free (wc := WM k0 kv ko ks km kt kp kb cZ cD cI (thr false false false) mv io sz mk se pv pd op mw) hD hS hA [0, 1, 2, 3, 4, 5, 6, 7] rfl
  refine wr_calli (va_runV (As := [.int (nI ((3 * g) + 2)), .int (b2i true), .double (FP.f2d x)]) (rest := []) ⟨hx, hb, hml, hown, hts⟩ (c_X1_marks l D k0 kv ko ks km kt kp kb cZ cD cI (thr false false false) mv io sz mk se pv pd op mw hsz H.size ((3 * g) + 2) true (FP.f2d x) (by omega)) (cwV 3 hts gX1_gale_X1_marks rfl rfl rfl (by decide +kernel) ⟨Nat.le_of_ble_eq_true rfl, Nat.le_of_ble_eq_true rfl⟩) ⟨fun a U g mk q => ⟨q.1, q.2.1, q.2.2.1, va_K.moved (u := U) (U := U.calling g mk a) (Vm.Alike.refl U.vm) q.2.2.2.1, q.2.2.2.2⟩, va_recv hK hP (ci := 2) (q0 := 0) rfl rfl, fun U hU hW => ⟨rfl, by rw [hU], by rw [hU]; exact hP, va_K.moved hW.alike hK, hD.weaken (fun _ _ _ _ => trivial)⟩⟩ rfl rfl hl.1 rfl (lv_room (Nat.le_of_ble_eq_true rfl)) dX1_gale_41 ⟨Nat.le_of_ble_eq_true rfl, Nat.le_of_ble_eq_true rfl⟩) hS hFc (fun r_4 H locs hr_4 hP _ _ hS => ?_)
  subst hr_4
  have hD : va_D A (WM k0 kv ko ks km kt kp kb cZ cD cI (thr false false false) mv io sz (up mk ((3 * g) + 2) (FP.f2d x)) (up se ((3 * g) + 2) true) pv pd op mw) := va_D_same (ws := WM k0 kv ko ks km kt kp kb cZ cD cI (thr false false false) mv io sz mk se pv pd op mw) rfl hD
  have hP : va_P D vwCl (WM k0 kv ko ks km kt kp kb cZ cD cI (thr false false false) mv io sz (up mk ((3 * g) + 2) (FP.f2d x)) (up se ((3 * g) + 2) true) pv pd op mw) H := hP
  refine W.widen (k := 0) (n := 0) (Nat.le_of_ble_eq_true rfl) (Nat.le_of_ble_eq_true rfl) ?_
  exact W.zret (v := b2i (se ((3 * g) + 2))) hx hb hr (b2i_nar _) (fun t9 ht9 hW9 => ⟨⟨_, rfl, rfl, by rw [ht9]; exact hP⟩, hS.F ht9⟩) hS.2.2 dX1_gale_44
set_option maxHeartbeats 4000000 in
set_option maxRecDepth 100000 in
theorem c_X1_lift (l : Launch) (D : va_G) (k0 kv ko ks km kt kp kb : Nat) (cZ cD cI : ClassId) (th : Nat) (mv : Nat → UInt64) (io : Nat → Bool) (sz : Nat → Nat) (mk : Nat → UInt64) (se : Nat → Bool) (pv : Nat → UInt64) (pd : Nat → Bool) (op : Bool) (mw : Int32) (hsz : ∀ j, sz j ≤ 12) (zz : Nat) (g : Nat) (k : Nat) (hg : g < 6) (hk : k < 3) : Met l yX1_lift wsX1_lift ({ frames := 1, cells := 0, slots := 0, locals := 25 }) (va_Pc [.ref k0, .int (nI g), .int (nI k)] (fun U => U.heap.size = zz ∧ va_P D vwCl (WM k0 kv ko ks km kt kp kb cZ cD cI th mv io sz mk se pv pd op mw) U.heap ∧ va_K D vwCl (TY cZ cD cI) U ∧ va_D (fun _ => True) (WM k0 kv ko ks km kt kp kb cZ cD cI th mv io sz mk se pv pd op mw))) (wr_Qi (fun r => r = b2i (se (3 * g + k))) (fun H => va_P D vwCl (WM k0 kv ko ks km kt kp kb cZ cD cI (thr false false false) mv io sz (up mk (3 * g + k) FP.dconst0) (up se (3 * g + k) false) pv pd op mw) H) (va_A (WM k0 kv ko ks km kt kp kb cZ cD cI th mv io sz mk se pv pd op mw) zz))  0 0 (va_A (WM k0 kv ko ks km kt kp kb cZ cD cI th mv io sz mk se pv pd op mw) zz) := by
  refine Met.ofW (cc := cX1_lift) (maxL := 3) (ret := some .boolean) (by decide) rfl ?_
  intro p e s m args below meth c s₁ B hml hv
  obtain ⟨rfl, hsz_, hP, hK, hD0⟩ := hv
  have hx := B.exec
  have hb := B.bytes
  have hr := B.returns
  have hts := atoms_spec (ws := wsX1_lift) B.pre
  have hown : s.vm.findClass RX1 = some m.cls := findClass_of_methodNamed B.named
  have hlocks := B.notSynchronized
  subst hsz_
  have hD := hD0.self (sz := s.heap.size)
  generalize hAe : va_A (WM k0 kv ko ks km kt kp kb cZ cD cI th mv io sz mk se pv pd op mw) s.heap.size = A at hD ⊢
  have hA : ∀ q : Nat, s.heap.size ≤ q → A q := fun q h => by rw [← hAe]; exact Or.inr h
  have hS : va_S A s.heap s.heap [] := va_S.rf
  have hl := lv_entry ([.ref k0, .int (nI g), .int (nI k)]) (n := 3) (Nat.le_of_ble_eq_true rfl)
  rw [lg_entry_eq]
  generalize (lg_sl ([.ref k0, .int (nI g), .int (nI k)]) ++ List.replicate (3 - (lg_sl ([.ref k0, .int (nI g), .int (nI k)])).length) Slot.unset).toArray = ls at hl ⊢
  have hl : lv_has ls 3 [(0, .ref k0), (1, .int (nI g)), (2, .int (nI k))] := hl
  refine lv_aload_n hx hb dX1_lift_0 rfl (lv_at hl 0 rfl) ?_
  refine lv_iload_n hx hb dX1_lift_1 rfl (lv_at hl 1 rfl) ?_
  refine lv_iconst (v := nI 5) hx hb dX1_lift_2 (by decide) ?_
  refine rd_calli (va_runS (As := [.int (nI g), .int (nI 5)]) (rest := [.ref k0]) ⟨hx, hb, hml, hown, hts⟩ (c_X1_inside l g 5 (by omega) (by omega)) (va_cwS 2 hts gX1_lift_X1_outside rfl rfl rfl (by decide +kernel) ⟨Nat.le_of_ble_eq_true rfl, Nat.le_of_ble_eq_true rfl⟩) ⟨fun a U g mk q => q, fun U hU hW => ⟨rfl, trivial⟩⟩ rfl rfl hl.1 rfl (lv_room (Nat.le_of_ble_eq_true rfl)) dX1_lift_3 ⟨Nat.le_of_ble_eq_true rfl, Nat.le_of_ble_eq_true rfl⟩) (fun r_1 hr_1 => ?_)
  subst hr_1
  refine kb_ne (tgt := 17) hx hb dX1_lift_6 (by decide) (fun h => absurd h (by decide)) (fun _ => ?_)
  refine lv_iload_n hx hb dX1_lift_9 rfl (lv_at hl 2 rfl) ?_
  refine lv_iconst (v := nI 2) hx hb dX1_lift_10 (by decide) ?_
  refine rd_calli (va_runS (As := [.int (nI k), .int (nI 2)]) (rest := [.ref k0]) ⟨hx, hb, hml, hown, hts⟩ (c_X1_inside l k 2 (by omega) (by omega)) (va_cwS 2 hts gX1_lift_X1_outside rfl rfl rfl (by decide +kernel) ⟨Nat.le_of_ble_eq_true rfl, Nat.le_of_ble_eq_true rfl⟩) ⟨fun a U g mk q => q, fun U hU hW => ⟨rfl, trivial⟩⟩ rfl rfl hl.1 rfl (lv_room (Nat.le_of_ble_eq_true rfl)) dX1_lift_11 ⟨Nat.le_of_ble_eq_true rfl, Nat.le_of_ble_eq_true rfl⟩) (fun r_2 hr_2 => ?_)
  subst hr_2
  refine kb_eq (tgt := 21) hx hb dX1_lift_14 (by decide) (fun _ => ?_) (fun h => absurd h (by decide))
  refine lv_iconst (v := nI 0) hx hb dX1_lift_21 (by decide) ?_
  refine lv_iconst (v := nI 0) hx hb dX1_lift_22 (by decide) ?_
  refine lv_iconst (v := nI 0) hx hb dX1_lift_23 (by decide) ?_
  have hFc := va_free (wc := WM k0 kv ko ks km kt kp kb cZ cD cI th mv io sz mk se pv pd op mw) hD hS hA [0, 1, 2, 3, 4, 5, 6, 7] rfl
  refine wr_calli (va_runV (As := [.int (b2i false), .int (b2i false), .int (b2i false)]) (rest := []) ⟨hx, hb, hml, hown, hts⟩ (c_X1_throwing l D k0 kv ko ks km kt kp kb cZ cD cI th mv io sz mk se pv pd op mw hsz s.heap.size false false false ) (cwV 3 hts gX1_lift_X1_throwing rfl rfl rfl (by decide +kernel) ⟨Nat.le_of_ble_eq_true rfl, Nat.le_of_ble_eq_true rfl⟩) ⟨fun a U g mk q => ⟨q.1, q.2.1, q.2.2.1, va_K.moved (u := U) (U := U.calling g mk a) (Vm.Alike.refl U.vm) q.2.2.2.1, q.2.2.2.2⟩, va_recv hK hP (ci := 2) (q0 := 0) rfl rfl, fun U hU hW => ⟨rfl, by rw [hU], by rw [hU]; exact hP, va_K.moved hW.alike hK, hD.weaken (fun _ _ _ _ => trivial)⟩⟩ rfl rfl hl.1 rfl (lv_room (Nat.le_of_ble_eq_true rfl)) dX1_lift_24 ⟨Nat.le_of_ble_eq_true rfl, Nat.le_of_ble_eq_true rfl⟩) hS hFc (fun r_3 H locs hr_3 hP _ _ hS => ?_)
  subst hr_3
  refine kt_i (y := b2i false) rfl ?_
  have hD : va_D A (WM k0 kv ko ks km kt kp kb cZ cD cI (thr false false false) mv io sz mk se pv pd op mw) := va_D_same (ws := WM k0 kv ko ks km kt kp kb cZ cD cI th mv io sz mk se pv pd op mw) rfl hD
  have hP : va_P D vwCl (WM k0 kv ko ks km kt kp kb cZ cD cI (thr false false false) mv io sz mk se pv pd op mw) H := hP
  refine kb_eq (tgt := 32) hx hb dX1_lift_27 (by decide) (fun _ => ?_) (fun h => absurd h (by decide))
  refine lv_aload_n hx hb dX1_lift_32 rfl (lv_at hl 0 rfl) ?_
  refine lv_iconst (v := nI 3) hx hb dX1_lift_33 (by decide) ?_
  refine lv_iload_n hx hb dX1_lift_34 rfl (lv_at hl 1 rfl) ?_
  refine kn_imul hx hb dX1_lift_35 ?_
  refine lv_iload_n hx hb dX1_lift_36 rfl (lv_at hl 2 rfl) ?_
  refine kn_iadd hx hb dX1_lift_37 ?_
  refine lv_iconst (v := nI 0) hx hb dX1_lift_38 (by decide) ?_
  refine lv_dconst0 hx hb dX1_lift_39 ?_
  have hFc := va_free (wc := WM k0 kv ko ks km kt kp kb cZ cD cI (thr false false false) mv io sz mk se pv pd op mw) hD hS hA [0, 1, 2, 3, 4, 5, 6, 7] rfl
  refine wr_calli (va_runV (As := [.int (nI ((3 * g) + k)), .int (b2i false), .double FP.dconst0]) (rest := []) ⟨hx, hb, hml, hown, hts⟩ (c_X1_marks l D k0 kv ko ks km kt kp kb cZ cD cI (thr false false false) mv io sz mk se pv pd op mw hsz H.size ((3 * g) + k) false FP.dconst0 (by omega)) (cwV 3 hts gX1_lift_X1_marks rfl rfl rfl (by decide +kernel) ⟨Nat.le_of_ble_eq_true rfl, Nat.le_of_ble_eq_true rfl⟩) ⟨fun a U g mk q => ⟨q.1, q.2.1, q.2.2.1, va_K.moved (u := U) (U := U.calling g mk a) (Vm.Alike.refl U.vm) q.2.2.2.1, q.2.2.2.2⟩, va_recv hK hP (ci := 2) (q0 := 0) rfl rfl, fun U hU hW => ⟨rfl, by rw [hU], by rw [hU]; exact hP, va_K.moved hW.alike hK, hD.weaken (fun _ _ _ _ => trivial)⟩⟩ rfl rfl hl.1 rfl (lv_room (Nat.le_of_ble_eq_true rfl)) dX1_lift_40 ⟨Nat.le_of_ble_eq_true rfl, Nat.le_of_ble_eq_true rfl⟩) hS hFc (fun r_4 H locs hr_4 hP _ _ hS => ?_)
  subst hr_4
  have hD : va_D A (WM k0 kv ko ks km kt kp kb cZ cD cI (thr false false false) mv io sz (up mk ((3 * g) + k) FP.dconst0) (up se ((3 * g) + k) false) pv pd op mw) := va_D_same (ws := WM k0 kv ko ks km kt kp kb cZ cD cI (thr false false false) mv io sz mk se pv pd op mw) rfl hD
  have hP : va_P D vwCl (WM k0 kv ko ks km kt kp kb cZ cD cI (thr false false false) mv io sz (up mk ((3 * g) + k) FP.dconst0) (up se ((3 * g) + k) false) pv pd op mw) H := hP
  refine W.widen (k := 0) (n := 0) (Nat.le_of_ble_eq_true rfl) (Nat.le_of_ble_eq_true rfl) ?_
  exact W.zret (v := b2i (se ((3 * g) + k))) hx hb hr (b2i_nar _) (fun t9 ht9 hW9 => ⟨⟨_, rfl, rfl, by rw [ht9]; exact hP⟩, hS.F ht9⟩) hS.2.2 dX1_lift_43
set_option maxHeartbeats 4000000 in
set_option maxRecDepth 100000 in
theorem c_X1_probe (l : Launch) (D : va_G) (k0 kv ko ks km kt kp kb : Nat) (cZ cD cI : ClassId) (th : Nat) (mv : Nat → UInt64) (io : Nat → Bool) (sz : Nat → Nat) (mk : Nat → UInt64) (se : Nat → Bool) (pv : Nat → UInt64) (pd : Nat → Bool) (op : Bool) (mw : Int32) (hsz : ∀ j, sz j ≤ 12) (zz : Nat) (x : UInt64) (hlv : lvl x = true) : Met l yX1_probe wsX1_probe ({ frames := 3, cells := 0, slots := 0, locals := 70 }) (va_Pc [.ref k0, .double x] (fun U => U.heap.size = zz ∧ va_P D vwCl (WM k0 kv ko ks km kt kp kb cZ cD cI th mv io sz mk se pv pd op mw) U.heap ∧ va_K D vwCl (TY cZ cD cI) U ∧ va_D (fun _ => True) (WM k0 kv ko ks km kt kp kb cZ cD cI th mv io sz mk se pv pd op mw))) (wr_Qi (fun r => r = nI (cn (fun g => isW 4 (wy (lo io sz (2 * g + 0) || !true) (lw mv sz (2 * g + 0)) x)) 6)) (fun H => va_P D vwCl (WM k0 kv ko ks km kt kp kb cZ cD cI (thr false false false) mv io sz mk se (up pv 0 x) (up pd 0 true) op mw) H) (va_A (WM k0 kv ko ks km kt kp kb cZ cD cI th mv io sz mk se pv pd op mw) zz))  0 0 (va_A (WM k0 kv ko ks km kt kp kb cZ cD cI th mv io sz mk se pv pd op mw) zz) := by
  refine Met.ofW (cc := cX1_probe) (maxL := 3) (ret := some .int) (by decide) rfl ?_
  intro p e s m args below meth c s₁ B hml hv
  obtain ⟨rfl, hsz_, hP, hK, hD0⟩ := hv
  have hx := B.exec
  have hb := B.bytes
  have hr := B.returns
  have hts := atoms_spec (ws := wsX1_probe) B.pre
  have hown : s.vm.findClass RX1 = some m.cls := findClass_of_methodNamed B.named
  have hlocks := B.notSynchronized
  subst hsz_
  have hD := hD0.self (sz := s.heap.size)
  generalize hAe : va_A (WM k0 kv ko ks km kt kp kb cZ cD cI th mv io sz mk se pv pd op mw) s.heap.size = A at hD ⊢
  have hA : ∀ q : Nat, s.heap.size ≤ q → A q := fun q h => by rw [← hAe]; exact Or.inr h
  have hS : va_S A s.heap s.heap [] := va_S.rf
  have hl := lv_entry ([.ref k0, .double x]) (n := 3) (Nat.le_of_ble_eq_true rfl)
  rw [lg_entry_eq]
  generalize (lg_sl ([.ref k0, .double x]) ++ List.replicate (3 - (lg_sl ([.ref k0, .double x])).length) Slot.unset).toArray = ls at hl ⊢
  have hl : lv_has ls 3 [(0, .ref k0), (1, .double x)] := hl
  refine lv_aload_n hx hb dX1_probe_0 rfl (lv_at hl 0 rfl) ?_
  refine lv_dload_n hx hb dX1_probe_1 rfl (lv_at hl 1 rfl) ?_
  refine rd_calli (va_runS (As := [.double x]) (rest := [.ref k0]) ⟨hx, hb, hml, hown, hts⟩ (c_X1_isLevel l x ) (va_cwS 1 hts gX1_probe_X1_isLevel rfl rfl rfl (by decide +kernel) ⟨Nat.le_of_ble_eq_true rfl, Nat.le_of_ble_eq_true rfl⟩) ⟨fun a U g mk q => q, fun U hU hW => ⟨rfl, trivial⟩⟩ rfl rfl hl.1 rfl (lv_room (Nat.le_of_ble_eq_true rfl)) dX1_probe_2 ⟨Nat.le_of_ble_eq_true rfl, Nat.le_of_ble_eq_true rfl⟩) (fun r_1 hr_1 => ?_)
  subst hr_1
  refine kb_ne (tgt := 12) hx hb dX1_probe_5 (by decide) (fun _ => ?_) (fun h => absurd (hlv.symm.trans h) (by decide))
  refine lv_iconst (v := nI 0) hx hb dX1_probe_12 (by decide) ?_
  refine lv_iconst (v := nI 0) hx hb dX1_probe_13 (by decide) ?_
  refine lv_iconst (v := nI 0) hx hb dX1_probe_14 (by decide) ?_
  have hFc := va_free (wc := WM k0 kv ko ks km kt kp kb cZ cD cI th mv io sz mk se pv pd op mw) hD hS hA [0, 1, 2, 3, 4, 5, 6, 7] rfl
  refine wr_calli (va_runV (As := [.int (b2i false), .int (b2i false), .int (b2i false)]) (rest := []) ⟨hx, hb, hml, hown, hts⟩ (c_X1_throwing l D k0 kv ko ks km kt kp kb cZ cD cI th mv io sz mk se pv pd op mw hsz s.heap.size false false false ) (cwV 3 hts gX1_probe_X1_throwing rfl rfl rfl (by decide +kernel) ⟨Nat.le_of_ble_eq_true rfl, Nat.le_of_ble_eq_true rfl⟩) ⟨fun a U g mk q => ⟨q.1, q.2.1, q.2.2.1, va_K.moved (u := U) (U := U.calling g mk a) (Vm.Alike.refl U.vm) q.2.2.2.1, q.2.2.2.2⟩, va_recv hK hP (ci := 2) (q0 := 0) rfl rfl, fun U hU hW => ⟨rfl, by rw [hU], by rw [hU]; exact hP, va_K.moved hW.alike hK, hD.weaken (fun _ _ _ _ => trivial)⟩⟩ rfl rfl hl.1 rfl (lv_room (Nat.le_of_ble_eq_true rfl)) dX1_probe_15 ⟨Nat.le_of_ble_eq_true rfl, Nat.le_of_ble_eq_true rfl⟩) hS hFc (fun r_2 H locs hr_2 hP _ _ hS => ?_)
  subst hr_2
  refine kt_i (y := b2i false) rfl ?_
  have hD : va_D A (WM k0 kv ko ks km kt kp kb cZ cD cI (thr false false false) mv io sz mk se pv pd op mw) := va_D_same (ws := WM k0 kv ko ks km kt kp kb cZ cD cI th mv io sz mk se pv pd op mw) rfl hD
  have hP : va_P D vwCl (WM k0 kv ko ks km kt kp kb cZ cD cI (thr false false false) mv io sz mk se pv pd op mw) H := hP
  refine kb_eq (tgt := 23) hx hb dX1_probe_18 (by decide) (fun _ => ?_) (fun h => absurd h (by decide))
  refine lv_aload_n hx hb dX1_probe_23 rfl (lv_at hl 0 rfl) ?_
  refine lv_iconst (v := nI 0) hx hb dX1_probe_24 (by decide) ?_
  refine lv_iconst (v := nI 1) hx hb dX1_probe_25 (by decide) ?_
  refine lv_dload_n hx hb dX1_probe_26 rfl (lv_at hl 1 rfl) ?_
  refine lv_iconst (v := nI 4) hx hb dX1_probe_27 (by decide) ?_
  have hFc := va_free (wc := WM k0 kv ko ks km kt kp kb cZ cD cI (thr false false false) mv io sz mk se pv pd op mw) hD hS hA [0, 1, 2, 3, 4, 5, 6, 7] rfl
  refine wr_calli (va_runV (As := [.int (nI 0), .int (b2i true), .double x, .int (nI 4)]) (rest := []) ⟨hx, hb, hml, hown, hts⟩ (c_X1_probes l D k0 kv ko ks km kt kp kb cZ cD cI (thr false false false) mv io sz mk se pv pd op mw hsz H.size 0 true x 4 (by omega) (by decide)) (cwV 4 hts gX1_probe_X1_probes rfl rfl rfl (by decide +kernel) ⟨Nat.le_of_ble_eq_true rfl, Nat.le_of_ble_eq_true rfl⟩) ⟨fun a U g mk q => ⟨q.1, q.2.1, q.2.2.1, va_K.moved (u := U) (U := U.calling g mk a) (Vm.Alike.refl U.vm) q.2.2.2.1, q.2.2.2.2⟩, va_recv hK hP (ci := 2) (q0 := 0) rfl rfl, fun U hU hW => ⟨rfl, by rw [hU], by rw [hU]; exact hP, va_K.moved hW.alike hK, hD.weaken (fun _ _ _ _ => trivial)⟩⟩ rfl rfl hl.1 rfl (lv_room (Nat.le_of_ble_eq_true rfl)) dX1_probe_28 ⟨Nat.le_of_ble_eq_true rfl, Nat.le_of_ble_eq_true rfl⟩) hS hFc (fun r_3 H locs hr_3 hP _ _ hS => ?_)
  subst hr_3
  have hD : va_D A (WM k0 kv ko ks km kt kp kb cZ cD cI (thr false false false) mv io sz mk se (up pv 0 x) (up pd 0 true) op mw) := va_D_same (ws := WM k0 kv ko ks km kt kp kb cZ cD cI (thr false false false) mv io sz mk se pv pd op mw) rfl hD
  have hP : va_P D vwCl (WM k0 kv ko ks km kt kp kb cZ cD cI (thr false false false) mv io sz mk se (up pv 0 x) (up pd 0 true) op mw) H := hP
  refine W.widen (k := 0) (n := 0) (Nat.le_of_ble_eq_true rfl) (Nat.le_of_ble_eq_true rfl) ?_
  exact W.iret (v := nI (cn (fun g => isW 4 (wy (lo io sz (2 * g + 0) || !true) (lw mv sz (2 * g + 0)) x)) 6)) hx hb hr (fun t9 ht9 hW9 => ⟨⟨_, rfl, rfl, by rw [ht9]; exact hP⟩, hS.F ht9⟩) hS.2.2 dX1_probe_31
set_option maxHeartbeats 4000000 in
set_option maxRecDepth 100000 in
theorem c_X1_probeWind (l : Launch) (D : va_G) (k0 kv ko ks km kt kp kb : Nat) (cZ cD cI : ClassId) (th : Nat) (mv : Nat → UInt64) (io : Nat → Bool) (sz : Nat → Nat) (mk : Nat → UInt64) (se : Nat → Bool) (pv : Nat → UInt64) (pd : Nat → Bool) (op : Bool) (mw : Int32) (hsz : ∀ j, sz j ≤ 12) (zz : Nat) (x : UInt32) (hnn : vf_n64 (FP.f2d x)) (hlv : wnM (FP.f2d x) = true) : Met l yX1_probeWind wsX1_probeWind ({ frames := 3, cells := 0, slots := 0, locals := 70 }) (va_Pc [.ref k0, .float x] (fun U => U.heap.size = zz ∧ va_P D vwCl (WM k0 kv ko ks km kt kp kb cZ cD cI th mv io sz mk se pv pd op mw) U.heap ∧ va_K D vwCl (TY cZ cD cI) U ∧ va_D (fun _ => True) (WM k0 kv ko ks km kt kp kb cZ cD cI th mv io sz mk se pv pd op mw))) (wr_Qi (fun r => r = nI (cn (fun g => isW 4 (wy (lo io sz (2 * g + 1) || !true) (lw mv sz (2 * g + 1)) (FP.f2d x))) 6)) (fun H => va_P D vwCl (WM k0 kv ko ks km kt kp kb cZ cD cI (thr false false false) mv io sz mk se (up pv 1 (FP.f2d x)) (up pd 1 true) op mw) H) (va_A (WM k0 kv ko ks km kt kp kb cZ cD cI th mv io sz mk se pv pd op mw) zz))  0 0 (va_A (WM k0 kv ko ks km kt kp kb cZ cD cI th mv io sz mk se pv pd op mw) zz) := by
  refine Met.ofW (cc := cX1_probeWind) (maxL := 2) (ret := some .int) (by decide) rfl ?_
  intro p e s m args below meth c s₁ B hml hv
  obtain ⟨rfl, hsz_, hP, hK, hD0⟩ := hv
  have hx := B.exec
  have hb := B.bytes
  have hr := B.returns
  have hts := atoms_spec (ws := wsX1_probeWind) B.pre
  have hown : s.vm.findClass RX1 = some m.cls := findClass_of_methodNamed B.named
  have hlocks := B.notSynchronized
  subst hsz_
  have hD := hD0.self (sz := s.heap.size)
  generalize hAe : va_A (WM k0 kv ko ks km kt kp kb cZ cD cI th mv io sz mk se pv pd op mw) s.heap.size = A at hD ⊢
  have hA : ∀ q : Nat, s.heap.size ≤ q → A q := fun q h => by rw [← hAe]; exact Or.inr h
  have hS : va_S A s.heap s.heap [] := va_S.rf
  have hl := lv_entry ([.ref k0, .float x]) (n := 2) (Nat.le_of_ble_eq_true rfl)
  rw [lg_entry_eq]
  generalize (lg_sl ([.ref k0, .float x]) ++ List.replicate (2 - (lg_sl ([.ref k0, .float x])).length) Slot.unset).toArray = ls at hl ⊢
  have hl : lv_has ls 2 [(0, .ref k0), (1, .float x)] := hl
  refine lv_aload_n hx hb dX1_probeWind_0 rfl (lv_at hl 0 rfl) ?_
  refine lv_fload_n hx hb dX1_probeWind_1 rfl (lv_at hl 1 rfl) ?_
  refine lv_f2d hx hb dX1_probeWind_2 hnn ?_
  refine rd_calli (va_runS (As := [.double (FP.f2d x)]) (rest := [.ref k0]) ⟨hx, hb, hml, hown, hts⟩ (c_X1_isWind l (FP.f2d x) ) (va_cwS 1 hts gX1_probeWind_X1_isWind rfl rfl rfl (by decide +kernel) ⟨Nat.le_of_ble_eq_true rfl, Nat.le_of_ble_eq_true rfl⟩) ⟨fun a U g mk q => q, fun U hU hW => ⟨rfl, trivial⟩⟩ rfl rfl hl.1 rfl (lv_room (Nat.le_of_ble_eq_true rfl)) dX1_probeWind_3 ⟨Nat.le_of_ble_eq_true rfl, Nat.le_of_ble_eq_true rfl⟩) (fun r_1 hr_1 => ?_)
  subst hr_1
  refine kb_ne (tgt := 13) hx hb dX1_probeWind_6 (by decide) (fun _ => ?_) (fun h => absurd (hlv.symm.trans h) (by decide))
  refine lv_iconst (v := nI 0) hx hb dX1_probeWind_13 (by decide) ?_
  refine lv_iconst (v := nI 0) hx hb dX1_probeWind_14 (by decide) ?_
  refine lv_iconst (v := nI 0) hx hb dX1_probeWind_15 (by decide) ?_
  have hFc := va_free (wc := WM k0 kv ko ks km kt kp kb cZ cD cI th mv io sz mk se pv pd op mw) hD hS hA [0, 1, 2, 3, 4, 5, 6, 7] rfl
  refine wr_calli (va_runV (As := [.int (b2i false), .int (b2i false), .int (b2i false)]) (rest := []) ⟨hx, hb, hml, hown, hts⟩ (c_X1_throwing l D k0 kv ko ks km kt kp kb cZ cD cI th mv io sz mk se pv pd op mw hsz s.heap.size false false false ) (cwV 3 hts gX1_probeWind_X1_throwing rfl rfl rfl (by decide +kernel) ⟨Nat.le_of_ble_eq_true rfl, Nat.le_of_ble_eq_true rfl⟩) ⟨fun a U g mk q => ⟨q.1, q.2.1, q.2.2.1, va_K.moved (u := U) (U := U.calling g mk a) (Vm.Alike.refl U.vm) q.2.2.2.1, q.2.2.2.2⟩, va_recv hK hP (ci := 2) (q0 := 0) rfl rfl, fun U hU hW => ⟨rfl, by rw [hU], by rw [hU]; exact hP, va_K.moved hW.alike hK, hD.weaken (fun _ _ _ _ => trivial)⟩⟩ rfl rfl hl.1 rfl (lv_room (Nat.le_of_ble_eq_true rfl)) dX1_probeWind_16 ⟨Nat.le_of_ble_eq_true rfl, Nat.le_of_ble_eq_true rfl⟩) hS hFc (fun r_2 H locs hr_2 hP _ _ hS => ?_)
  subst hr_2
  refine kt_i (y := b2i false) rfl ?_
  have hD : va_D A (WM k0 kv ko ks km kt kp kb cZ cD cI (thr false false false) mv io sz mk se pv pd op mw) := va_D_same (ws := WM k0 kv ko ks km kt kp kb cZ cD cI th mv io sz mk se pv pd op mw) rfl hD
  have hP : va_P D vwCl (WM k0 kv ko ks km kt kp kb cZ cD cI (thr false false false) mv io sz mk se pv pd op mw) H := hP
  refine kb_eq (tgt := 24) hx hb dX1_probeWind_19 (by decide) (fun _ => ?_) (fun h => absurd h (by decide))
  refine lv_aload_n hx hb dX1_probeWind_24 rfl (lv_at hl 0 rfl) ?_
  refine lv_iconst (v := nI 1) hx hb dX1_probeWind_25 (by decide) ?_
  refine lv_iconst (v := nI 1) hx hb dX1_probeWind_26 (by decide) ?_
  refine lv_fload_n hx hb dX1_probeWind_27 rfl (lv_at hl 1 rfl) ?_
  refine lv_f2d hx hb dX1_probeWind_28 hnn ?_
  refine lv_iconst (v := nI 4) hx hb dX1_probeWind_29 (by decide) ?_
  have hFc := va_free (wc := WM k0 kv ko ks km kt kp kb cZ cD cI (thr false false false) mv io sz mk se pv pd op mw) hD hS hA [0, 1, 2, 3, 4, 5, 6, 7] rfl
  refine wr_calli (va_runV (As := [.int (nI 1), .int (b2i true), .double (FP.f2d x), .int (nI 4)]) (rest := []) ⟨hx, hb, hml, hown, hts⟩ (c_X1_probes l D k0 kv ko ks km kt kp kb cZ cD cI (thr false false false) mv io sz mk se pv pd op mw hsz H.size 1 true (FP.f2d x) 4 (by omega) (by decide)) (cwV 4 hts gX1_probeWind_X1_probes rfl rfl rfl (by decide +kernel) ⟨Nat.le_of_ble_eq_true rfl, Nat.le_of_ble_eq_true rfl⟩) ⟨fun a U g mk q => ⟨q.1, q.2.1, q.2.2.1, va_K.moved (u := U) (U := U.calling g mk a) (Vm.Alike.refl U.vm) q.2.2.2.1, q.2.2.2.2⟩, va_recv hK hP (ci := 2) (q0 := 0) rfl rfl, fun U hU hW => ⟨rfl, by rw [hU], by rw [hU]; exact hP, va_K.moved hW.alike hK, hD.weaken (fun _ _ _ _ => trivial)⟩⟩ rfl rfl hl.1 rfl (lv_room (Nat.le_of_ble_eq_true rfl)) dX1_probeWind_30 ⟨Nat.le_of_ble_eq_true rfl, Nat.le_of_ble_eq_true rfl⟩) hS hFc (fun r_3 H locs hr_3 hP _ _ hS => ?_)
  subst hr_3
  have hD : va_D A (WM k0 kv ko ks km kt kp kb cZ cD cI (thr false false false) mv io sz mk se (up pv 1 (FP.f2d x)) (up pd 1 true) op mw) := va_D_same (ws := WM k0 kv ko ks km kt kp kb cZ cD cI (thr false false false) mv io sz mk se pv pd op mw) rfl hD
  have hP : va_P D vwCl (WM k0 kv ko ks km kt kp kb cZ cD cI (thr false false false) mv io sz mk se (up pv 1 (FP.f2d x)) (up pd 1 true) op mw) H := hP
  refine W.widen (k := 0) (n := 0) (Nat.le_of_ble_eq_true rfl) (Nat.le_of_ble_eq_true rfl) ?_
  exact W.iret (v := nI (cn (fun g => isW 4 (wy (lo io sz (2 * g + 1) || !true) (lw mv sz (2 * g + 1)) (FP.f2d x))) 6)) hx hb hr (fun t9 ht9 hW9 => ⟨⟨_, rfl, rfl, by rw [ht9]; exact hP⟩, hS.F ht9⟩) hS.2.2 dX1_probeWind_33
set_option maxHeartbeats 4000000 in
set_option maxRecDepth 100000 in
theorem c_X1_probeOut (l : Launch) (D : va_G) (k0 kv ko ks km kt kp kb : Nat) (cZ cD cI : ClassId) (th : Nat) (mv : Nat → UInt64) (io : Nat → Bool) (sz : Nat → Nat) (mk : Nat → UInt64) (se : Nat → Bool) (pv : Nat → UInt64) (pd : Nat → Bool) (op : Bool) (mw : Int32) (hsz : ∀ j, sz j ≤ 12) (zz : Nat) (w : Nat) (hw : w < 2) : Met l yX1_probeOut wsX1_probeOut ({ frames := 3, cells := 0, slots := 0, locals := 70 }) (va_Pc [.ref k0, .int (nI w)] (fun U => U.heap.size = zz ∧ va_P D vwCl (WM k0 kv ko ks km kt kp kb cZ cD cI th mv io sz mk se pv pd op mw) U.heap ∧ va_K D vwCl (TY cZ cD cI) U ∧ va_D (fun _ => True) (WM k0 kv ko ks km kt kp kb cZ cD cI th mv io sz mk se pv pd op mw))) (wr_Qi (fun r => r = nI (cn (fun g => isW 5 (wy (lo io sz (2 * g + w) || !false) (lw mv sz (2 * g + w)) FP.dconst0)) 6)) (fun H => va_P D vwCl (WM k0 kv ko ks km kt kp kb cZ cD cI (thr false false false) mv io sz mk se (up pv w FP.dconst0) (up pd w false) op mw) H) (va_A (WM k0 kv ko ks km kt kp kb cZ cD cI th mv io sz mk se pv pd op mw) zz))  0 0 (va_A (WM k0 kv ko ks km kt kp kb cZ cD cI th mv io sz mk se pv pd op mw) zz) := by
  refine Met.ofW (cc := cX1_probeOut) (maxL := 2) (ret := some .int) (by decide) rfl ?_
  intro p e s m args below meth c s₁ B hml hv
  obtain ⟨rfl, hsz_, hP, hK, hD0⟩ := hv
  have hx := B.exec
  have hb := B.bytes
  have hr := B.returns
  have hts := atoms_spec (ws := wsX1_probeOut) B.pre
  have hown : s.vm.findClass RX1 = some m.cls := findClass_of_methodNamed B.named
  have hlocks := B.notSynchronized
  subst hsz_
  have hD := hD0.self (sz := s.heap.size)
  generalize hAe : va_A (WM k0 kv ko ks km kt kp kb cZ cD cI th mv io sz mk se pv pd op mw) s.heap.size = A at hD ⊢
  have hA : ∀ q : Nat, s.heap.size ≤ q → A q := fun q h => by rw [← hAe]; exact Or.inr h
  have hS : va_S A s.heap s.heap [] := va_S.rf
  have hl := lv_entry ([.ref k0, .int (nI w)]) (n := 2) (Nat.le_of_ble_eq_true rfl)
  rw [lg_entry_eq]
  generalize (lg_sl ([.ref k0, .int (nI w)]) ++ List.replicate (2 - (lg_sl ([.ref k0, .int (nI w)])).length) Slot.unset).toArray = ls at hl ⊢
  have hl : lv_has ls 2 [(0, .ref k0), (1, .int (nI w))] := hl
  refine lv_aload_n hx hb dX1_probeOut_0 rfl (lv_at hl 0 rfl) ?_
  refine lv_iload_n hx hb dX1_probeOut_1 rfl (lv_at hl 1 rfl) ?_
  refine lv_iconst (v := nI 1) hx hb dX1_probeOut_2 (by decide) ?_
  refine rd_calli (va_runS (As := [.int (nI w), .int (nI 1)]) (rest := [.ref k0]) ⟨hx, hb, hml, hown, hts⟩ (c_X1_inside l w 1 (by omega) (by omega)) (va_cwS 2 hts gX1_probeOut_X1_outside rfl rfl rfl (by decide +kernel) ⟨Nat.le_of_ble_eq_true rfl, Nat.le_of_ble_eq_true rfl⟩) ⟨fun a U g mk q => q, fun U hU hW => ⟨rfl, trivial⟩⟩ rfl rfl hl.1 rfl (lv_room (Nat.le_of_ble_eq_true rfl)) dX1_probeOut_3 ⟨Nat.le_of_ble_eq_true rfl, Nat.le_of_ble_eq_true rfl⟩) (fun r_1 hr_1 => ?_)
  subst hr_1
  refine lv_iconst (v := nI 0) hx hb dX1_probeOut_6 (by decide) ?_
  refine lv_iconst (v := nI 0) hx hb dX1_probeOut_7 (by decide) ?_
  have hFc := va_free (wc := WM k0 kv ko ks km kt kp kb cZ cD cI th mv io sz mk se pv pd op mw) hD hS hA [0, 1, 2, 3, 4, 5, 6, 7] rfl
  refine wr_calli (va_runV (As := [.int (b2i false), .int (b2i false), .int (b2i false)]) (rest := []) ⟨hx, hb, hml, hown, hts⟩ (c_X1_throwing l D k0 kv ko ks km kt kp kb cZ cD cI th mv io sz mk se pv pd op mw hsz s.heap.size false false false ) (cwV 3 hts gX1_probeOut_X1_throwing rfl rfl rfl (by decide +kernel) ⟨Nat.le_of_ble_eq_true rfl, Nat.le_of_ble_eq_true rfl⟩) ⟨fun a U g mk q => ⟨q.1, q.2.1, q.2.2.1, va_K.moved (u := U) (U := U.calling g mk a) (Vm.Alike.refl U.vm) q.2.2.2.1, q.2.2.2.2⟩, va_recv hK hP (ci := 2) (q0 := 0) rfl rfl, fun U hU hW => ⟨rfl, by rw [hU], by rw [hU]; exact hP, va_K.moved hW.alike hK, hD.weaken (fun _ _ _ _ => trivial)⟩⟩ rfl rfl hl.1 rfl (lv_room (Nat.le_of_ble_eq_true rfl)) dX1_probeOut_8 ⟨Nat.le_of_ble_eq_true rfl, Nat.le_of_ble_eq_true rfl⟩) hS hFc (fun r_2 H locs hr_2 hP _ _ hS => ?_)
  subst hr_2
  refine kt_i (y := b2i false) rfl ?_
  have hD : va_D A (WM k0 kv ko ks km kt kp kb cZ cD cI (thr false false false) mv io sz mk se pv pd op mw) := va_D_same (ws := WM k0 kv ko ks km kt kp kb cZ cD cI th mv io sz mk se pv pd op mw) rfl hD
  have hP : va_P D vwCl (WM k0 kv ko ks km kt kp kb cZ cD cI (thr false false false) mv io sz mk se pv pd op mw) H := hP
  refine kb_eq (tgt := 16) hx hb dX1_probeOut_11 (by decide) (fun _ => ?_) (fun h => absurd h (by decide))
  refine lv_aload_n hx hb dX1_probeOut_16 rfl (lv_at hl 0 rfl) ?_
  refine lv_iload_n hx hb dX1_probeOut_17 rfl (lv_at hl 1 rfl) ?_
  refine lv_iconst (v := nI 0) hx hb dX1_probeOut_18 (by decide) ?_
  refine lv_dconst0 hx hb dX1_probeOut_19 ?_
  refine lv_iconst (v := nI 5) hx hb dX1_probeOut_20 (by decide) ?_
  have hFc := va_free (wc := WM k0 kv ko ks km kt kp kb cZ cD cI (thr false false false) mv io sz mk se pv pd op mw) hD hS hA [0, 1, 2, 3, 4, 5, 6, 7] rfl
  refine wr_calli (va_runV (As := [.int (nI w), .int (b2i false), .double FP.dconst0, .int (nI 5)]) (rest := []) ⟨hx, hb, hml, hown, hts⟩ (c_X1_probes l D k0 kv ko ks km kt kp kb cZ cD cI (thr false false false) mv io sz mk se pv pd op mw hsz H.size w false FP.dconst0 5 (by omega) (by decide)) (cwV 4 hts gX1_probeOut_X1_probes rfl rfl rfl (by decide +kernel) ⟨Nat.le_of_ble_eq_true rfl, Nat.le_of_ble_eq_true rfl⟩) ⟨fun a U g mk q => ⟨q.1, q.2.1, q.2.2.1, va_K.moved (u := U) (U := U.calling g mk a) (Vm.Alike.refl U.vm) q.2.2.2.1, q.2.2.2.2⟩, va_recv hK hP (ci := 2) (q0 := 0) rfl rfl, fun U hU hW => ⟨rfl, by rw [hU], by rw [hU]; exact hP, va_K.moved hW.alike hK, hD.weaken (fun _ _ _ _ => trivial)⟩⟩ rfl rfl hl.1 rfl (lv_room (Nat.le_of_ble_eq_true rfl)) dX1_probeOut_21 ⟨Nat.le_of_ble_eq_true rfl, Nat.le_of_ble_eq_true rfl⟩) hS hFc (fun r_3 H locs hr_3 hP _ _ hS => ?_)
  subst hr_3
  have hD : va_D A (WM k0 kv ko ks km kt kp kb cZ cD cI (thr false false false) mv io sz mk se (up pv w FP.dconst0) (up pd w false) op mw) := va_D_same (ws := WM k0 kv ko ks km kt kp kb cZ cD cI (thr false false false) mv io sz mk se pv pd op mw) rfl hD
  have hP : va_P D vwCl (WM k0 kv ko ks km kt kp kb cZ cD cI (thr false false false) mv io sz mk se (up pv w FP.dconst0) (up pd w false) op mw) H := hP
  refine W.widen (k := 0) (n := 0) (Nat.le_of_ble_eq_true rfl) (Nat.le_of_ble_eq_true rfl) ?_
  exact W.iret (v := nI (cn (fun g => isW 5 (wy (lo io sz (2 * g + w) || !false) (lw mv sz (2 * g + w)) FP.dconst0)) 6)) hx hb hr (fun t9 ht9 hW9 => ⟨⟨_, rfl, rfl, by rw [ht9]; exact hP⟩, hS.F ht9⟩) hS.2.2 dX1_probeOut_24
set_option maxHeartbeats 4000000 in
set_option maxRecDepth 100000 in
theorem c_X1_run_true (l : Launch) (D : va_G) (k0 kv ko ks km kt kp kb : Nat) (cZ cD cI : ClassId) (th : Nat) (mv : Nat → UInt64) (io : Nat → Bool) (sz : Nat → Nat) (mk : Nat → UInt64) (se : Nat → Bool) (pv : Nat → UInt64) (pd : Nat → Bool) (op : Bool) (mw : Int32) (hsz : ∀ j, sz j ≤ 12) (zz : Nat) (g : Nat) (w : Nat) (k : Nat) (hg : g < 6) (hw : w < 2) (hk : k < 6) : Met l yX1_run wsX1_run ({ frames := 2, cells := 0, slots := 0, locals := 46 }) (va_Pc [.ref k0, .int (nI g), .int (nI w), .int (nI k), .int (b2i true)] (fun U => U.heap.size = zz ∧ va_P D vwCl (WM k0 kv ko ks km kt kp kb cZ cD cI th mv io sz mk se pv pd op mw) U.heap ∧ va_K D vwCl (TY cZ cD cI) U ∧ va_D (fun _ => True) (WM k0 kv ko ks km kt kp kb cZ cD cI th mv io sz mk se pv pd op mw))) (wr_Qi (fun r => r = nI (nq (fun j => !isW k (wy (io (12 * (2 * g + w) + (sz (2 * g + w) - 1 - j)) || !pd w) (mv (12 * (2 * g + w) + (sz (2 * g + w) - 1 - j))) (pv w))) (sz (2 * g + w)))) (fun H => va_P D vwCl (WM k0 kv ko ks km kt kp kb cZ cD cI (thr false false false) mv io sz mk se pv pd op mw) H) (va_A (WM k0 kv ko ks km kt kp kb cZ cD cI th mv io sz mk se pv pd op mw) zz))  0 0 (va_A (WM k0 kv ko ks km kt kp kb cZ cD cI th mv io sz mk se pv pd op mw) zz) := by
  refine Met.ofW (cc := cX1_run) (maxL := 10) (ret := some .int) (by decide) rfl ?_
  intro p e s m args below meth c s₁ B hml hv
  obtain ⟨rfl, hsz_, hP, hK, hD0⟩ := hv
  have hx := B.exec
  have hb := B.bytes
  have hr := B.returns
  have hts := atoms_spec (ws := wsX1_run) B.pre
  have hown : s.vm.findClass RX1 = some m.cls := findClass_of_methodNamed B.named
  have hlocks := B.notSynchronized
  subst hsz_
  have hD := hD0.self (sz := s.heap.size)
  generalize hAe : va_A (WM k0 kv ko ks km kt kp kb cZ cD cI th mv io sz mk se pv pd op mw) s.heap.size = A at hD ⊢
  have hA : ∀ q : Nat, s.heap.size ≤ q → A q := fun q h => by rw [← hAe]; exact Or.inr h
  have hS : va_S A s.heap s.heap [] := va_S.rf
  have hl := lv_entry ([.ref k0, .int (nI g), .int (nI w), .int (nI k), .int (b2i true)]) (n := 10) (Nat.le_of_ble_eq_true rfl)
  rw [lg_entry_eq]
  generalize (lg_sl ([.ref k0, .int (nI g), .int (nI w), .int (nI k), .int (b2i true)]) ++ List.replicate (10 - (lg_sl ([.ref k0, .int (nI g), .int (nI w), .int (nI k), .int (b2i true)])).length) Slot.unset).toArray = ls at hl ⊢
  have hl : lv_has ls 10 [(0, .ref k0), (1, .int (nI g)), (2, .int (nI w)), (3, .int (nI k)), (4, .int (b2i true))] := hl
  have hinRX1 : ∀ w ∈ wsX10, w ∈ wsX1_run := by decide +kernel
  have hf_17 := hts (.fieldLink RX1 17 "HarbourBoardModel" "sizes" "[I") (by decide +kernel)
  have h1 := hsz (2 * g + w)
  refine lv_aload_n hx hb dX1_run_0 rfl (lv_at hl 0 rfl) ?_
  refine lv_iload_n hx hb dX1_run_1 rfl (lv_at hl 1 rfl) ?_
  refine lv_iconst (v := nI 5) hx hb dX1_run_2 (by decide) ?_
  refine rd_calli (va_runS (As := [.int (nI g), .int (nI 5)]) (rest := [.ref k0]) ⟨hx, hb, hml, hown, hts⟩ (c_X1_inside l g 5 (by omega) (by omega)) (va_cwS 2 hts gX1_run_X1_outside rfl rfl rfl (by decide +kernel) ⟨Nat.le_of_ble_eq_true rfl, Nat.le_of_ble_eq_true rfl⟩) ⟨fun a U g mk q => q, fun U hU hW => ⟨rfl, trivial⟩⟩ rfl rfl hl.1 rfl (lv_room (Nat.le_of_ble_eq_true rfl)) dX1_run_3 ⟨Nat.le_of_ble_eq_true rfl, Nat.le_of_ble_eq_true rfl⟩) (fun r_1 hr_1 => ?_)
  subst hr_1
  refine kb_ne (tgt := 25) hx hb dX1_run_6 (by decide) (fun h => absurd h (by decide)) (fun _ => ?_)
  refine lv_iload_n hx hb dX1_run_9 rfl (lv_at hl 2 rfl) ?_
  refine lv_iconst (v := nI 1) hx hb dX1_run_10 (by decide) ?_
  refine rd_calli (va_runS (As := [.int (nI w), .int (nI 1)]) (rest := [.ref k0]) ⟨hx, hb, hml, hown, hts⟩ (c_X1_inside l w 1 (by omega) (by omega)) (va_cwS 2 hts gX1_run_X1_outside rfl rfl rfl (by decide +kernel) ⟨Nat.le_of_ble_eq_true rfl, Nat.le_of_ble_eq_true rfl⟩) ⟨fun a U g mk q => q, fun U hU hW => ⟨rfl, trivial⟩⟩ rfl rfl hl.1 rfl (lv_room (Nat.le_of_ble_eq_true rfl)) dX1_run_11 ⟨Nat.le_of_ble_eq_true rfl, Nat.le_of_ble_eq_true rfl⟩) (fun r_2 hr_2 => ?_)
  subst hr_2
  refine kb_ne (tgt := 25) hx hb dX1_run_14 (by decide) (fun h => absurd h (by decide)) (fun _ => ?_)
  refine lv_iload_n hx hb dX1_run_17 rfl (lv_at hl 3 rfl) ?_
  refine lv_iconst (v := nI 5) hx hb dX1_run_18 (by decide) ?_
  refine rd_calli (va_runS (As := [.int (nI k), .int (nI 5)]) (rest := [.ref k0]) ⟨hx, hb, hml, hown, hts⟩ (c_X1_inside l k 5 (by omega) (by omega)) (va_cwS 2 hts gX1_run_X1_outside rfl rfl rfl (by decide +kernel) ⟨Nat.le_of_ble_eq_true rfl, Nat.le_of_ble_eq_true rfl⟩) ⟨fun a U g mk q => q, fun U hU hW => ⟨rfl, trivial⟩⟩ rfl rfl hl.1 rfl (lv_room (Nat.le_of_ble_eq_true rfl)) dX1_run_19 ⟨Nat.le_of_ble_eq_true rfl, Nat.le_of_ble_eq_true rfl⟩) (fun r_3 hr_3 => ?_)
  subst hr_3
  refine kb_eq (tgt := 29) hx hb dX1_run_22 (by decide) (fun _ => ?_) (fun h => absurd h (by decide))
  refine lv_iconst (v := nI 0) hx hb dX1_run_29 (by decide) ?_
  refine lv_iconst (v := nI 0) hx hb dX1_run_30 (by decide) ?_
  refine lv_iconst (v := nI 0) hx hb dX1_run_31 (by decide) ?_
  have hFc := va_free (wc := WM k0 kv ko ks km kt kp kb cZ cD cI th mv io sz mk se pv pd op mw) hD hS hA [0, 1, 2, 3, 4, 5, 6, 7] rfl
  refine wr_calli (va_runV (As := [.int (b2i false), .int (b2i false), .int (b2i false)]) (rest := []) ⟨hx, hb, hml, hown, hts⟩ (c_X1_throwing l D k0 kv ko ks km kt kp kb cZ cD cI th mv io sz mk se pv pd op mw hsz s.heap.size false false false ) (cwV 3 hts gX1_run_X1_throwing rfl rfl rfl (by decide +kernel) ⟨Nat.le_of_ble_eq_true rfl, Nat.le_of_ble_eq_true rfl⟩) ⟨fun a U g mk q => ⟨q.1, q.2.1, q.2.2.1, va_K.moved (u := U) (U := U.calling g mk a) (Vm.Alike.refl U.vm) q.2.2.2.1, q.2.2.2.2⟩, va_recv hK hP (ci := 2) (q0 := 0) rfl rfl, fun U hU hW => ⟨rfl, by rw [hU], by rw [hU]; exact hP, va_K.moved hW.alike hK, hD.weaken (fun _ _ _ _ => trivial)⟩⟩ rfl rfl hl.1 rfl (lv_room (Nat.le_of_ble_eq_true rfl)) dX1_run_32 ⟨Nat.le_of_ble_eq_true rfl, Nat.le_of_ble_eq_true rfl⟩) hS hFc (fun r_4 H locs hr_4 hP _ _ hS => ?_)
  subst hr_4
  refine kt_i (y := b2i false) rfl ?_
  have hD : va_D A (WM k0 kv ko ks km kt kp kb cZ cD cI (thr false false false) mv io sz mk se pv pd op mw) := va_D_same (ws := WM k0 kv ko ks km kt kp kb cZ cD cI th mv io sz mk se pv pd op mw) rfl hD
  have hP : va_P D vwCl (WM k0 kv ko ks km kt kp kb cZ cD cI (thr false false false) mv io sz mk se pv pd op mw) H := hP
  refine kb_eq (tgt := 40) hx hb dX1_run_35 (by decide) (fun _ => ?_) (fun h => absurd h (by decide))
  refine lv_iconst (v := nI 2) hx hb dX1_run_40 (by decide) ?_
  refine lv_iload_n hx hb dX1_run_41 rfl (lv_at hl 1 rfl) ?_
  refine kn_imul hx hb dX1_run_42 ?_
  refine lv_iload_n hx hb dX1_run_43 rfl (lv_at hl 2 rfl) ?_
  refine kn_iadd hx hb dX1_run_44 ?_
  refine lv_istore (lv' := [(5, .int (nI ((2 * g) + w))), (0, .ref k0), (1, .int (nI g)), (2, .int (nI w)), (3, .int (nI k)), (4, .int (b2i true))]) hx hb dX1_run_45 hl (by decide) rfl (fun ls hl => ?_)
  refine lv_iconst (v := nI 0) hx hb dX1_run_47 (by decide) ?_
  refine lv_istore (lv' := [(6, .int (nI 0)), (5, .int (nI ((2 * g) + w))), (0, .ref k0), (1, .int (nI g)), (2, .int (nI w)), (3, .int (nI k)), (4, .int (b2i true))]) hx hb dX1_run_48 hl (by decide) rfl (fun ls hl => ?_)
  refine lv_iconst (v := nI 1) hx hb dX1_run_50 (by decide) ?_
  refine lv_istore (lv' := [(7, .int (nI 1)), (6, .int (nI 0)), (5, .int (nI ((2 * g) + w))), (0, .ref k0), (1, .int (nI g)), (2, .int (nI w)), (3, .int (nI k)), (4, .int (b2i true))]) hx hb dX1_run_51 hl (by decide) rfl (fun ls hl => ?_)
  refine lv_iconst (v := nI 0) hx hb dX1_run_53 (by decide) ?_
  refine lv_istore (lv' := [(8, .int (nI 0)), (7, .int (nI 1)), (6, .int (nI 0)), (5, .int (nI ((2 * g) + w))), (0, .ref k0), (1, .int (nI g)), (2, .int (nI w)), (3, .int (nI k)), (4, .int (b2i true))]) hx hb dX1_run_54 hl (by decide) rfl (fun ls hl => ?_)
  refine (?_ : ∀ (k_ i : Nat) (ls : Array Slot), i + k_ = sz (2 * g + w) → lv_has ls 10 [(0, .ref k0), (1, .int (nI g)), (2, .int (nI w)), (3, .int (nI k)), (4, .int (b2i true)), (5, .int (nI (2 * g + w))), (6, .int (nI (nq (fun j => !isW k (wy (io (12 * (2 * g + w) + (sz (2 * g + w) - 1 - j)) || !pd w) (mv (12 * (2 * g + w) + (sz (2 * g + w) - 1 - j))) (pv w))) i))), (7, .int (b2i (gq (fun j => !isW k (wy (io (12 * (2 * g + w) + (sz (2 * g + w) - 1 - j)) || !pd w) (mv (12 * (2 * g + w) + (sz (2 * g + w) - 1 - j))) (pv w))) i))), (8, .int (nI i))] → W p l e _ s m _ below meth c _ _ _ _ _ (F0 m 56 ls [])) (sz (2 * g + w)) 0 ls (by omega) (lv_sub hl [4, 5, 6, 7, 8, 3, 2, 1, 0] rfl)
  clear hl
  intro k_
  induction k_ with
  | zero =>
    intro i ls hi hl
    refine lv_iload hx hb dX1_run_56 (lv_at hl 8 rfl) ?_
    refine lv_aload_n hx hb dX1_run_58 rfl (lv_at hl 0 rfl) ?_
    refine va_get (D := D) (ci := 2) (v := .ref ks) (C := RX1) (T := TX1) (N := 10) hx hb hts hinRX1 hown hK hP 0 rfl rfl 3 (by decide) hf_17 (fun _ h9 => h9) rfl dX1_run_59 ?_
    refine lv_iload hx hb dX1_run_62 (lv_at hl 5 rfl) ?_
    refine kn_iald hx hb hK hP 3 2 rfl rfl (by omega) (by decide) dX1_run_64 ?_
    refine kn_icmp_ge (tgt := 148) hx hb (by omega) (by omega) dX1_run_65 (by decide) (fun c_x => ?_) (fun h => absurd h (by omega))
    refine lv_iload hx hb dX1_run_148 (lv_at hl 6 rfl) ?_
    refine W.widen (k := 0) (n := 0) (Nat.le_of_ble_eq_true rfl) (Nat.le_of_ble_eq_true rfl) ?_
    exact W.iret (v := nI (nq (fun j => !isW k (wy (io (12 * (2 * g + w) + (sz (2 * g + w) - 1 - j)) || !pd w) (mv (12 * (2 * g + w) + (sz (2 * g + w) - 1 - j))) (pv w))) i)) hx hb hr (fun t9 ht9 hW9 => ⟨⟨_, rfl, by rw [show i = sz (2 * g + w) by omega], by rw [ht9]; exact hP⟩, hS.F ht9⟩) hS.2.2 dX1_run_150
  | succ k_ ih =>
    intro i ls hi hl
    refine lv_iload hx hb dX1_run_56 (lv_at hl 8 rfl) ?_
    refine lv_aload_n hx hb dX1_run_58 rfl (lv_at hl 0 rfl) ?_
    refine va_get (D := D) (ci := 2) (v := .ref ks) (C := RX1) (T := TX1) (N := 10) hx hb hts hinRX1 hown hK hP 0 rfl rfl 3 (by decide) hf_17 (fun _ h9 => h9) rfl dX1_run_59 ?_
    refine lv_iload hx hb dX1_run_62 (lv_at hl 5 rfl) ?_
    refine kn_iald hx hb hK hP 3 2 rfl rfl (by omega) (by decide) dX1_run_64 ?_
    refine kn_icmp_ge (tgt := 148) hx hb (by omega) (by omega) dX1_run_65 (by decide) (fun h => absurd h (by omega)) (fun c_x => ?_)
    refine lv_bipush (v := nI 12) hx hb dX1_run_68 (by decide) ?_
    refine lv_iload hx hb dX1_run_70 (lv_at hl 5 rfl) ?_
    refine kn_imul hx hb dX1_run_72 ?_
    refine lv_iload hx hb dX1_run_73 (lv_at hl 4 rfl) ?_
    refine kb_eq (tgt := 93) hx hb dX1_run_75 (by decide) (fun h => absurd h (by decide)) (fun _ => ?_)
    refine lv_aload_n hx hb dX1_run_78 rfl (lv_at hl 0 rfl) ?_
    refine va_get (D := D) (ci := 2) (v := .ref ks) (C := RX1) (T := TX1) (N := 10) hx hb hts hinRX1 hown hK hP 0 rfl rfl 3 (by decide) hf_17 (fun _ h9 => h9) rfl dX1_run_79 ?_
    refine lv_iload hx hb dX1_run_82 (lv_at hl 5 rfl) ?_
    refine kn_iald hx hb hK hP 3 2 rfl rfl (by omega) (by decide) dX1_run_84 ?_
    refine lv_iconst (v := nI 1) hx hb dX1_run_85 (by decide) ?_
    refine kn_isub hx hb (by omega) dX1_run_86 ?_
    refine lv_iload hx hb dX1_run_87 (lv_at hl 8 rfl) ?_
    refine kn_isub hx hb (by omega) dX1_run_89 ?_
    refine lv_goto (tgt := 95) hx hb dX1_run_90 (by decide) ?_
    refine kn_iadd hx hb dX1_run_95 ?_
    refine lv_istore (lv' := [(9, .int (nI ((12 * (2 * g + w)) + (((sz (2 * g + w)) - 1) - i)))), (0, .ref k0), (1, .int (nI g)), (2, .int (nI w)), (3, .int (nI k)), (4, .int (b2i true)), (5, .int (nI (2 * g + w))), (6, .int (nI (nq (fun j => !isW k (wy (io (12 * (2 * g + w) + (sz (2 * g + w) - 1 - j)) || !pd w) (mv (12 * (2 * g + w) + (sz (2 * g + w) - 1 - j))) (pv w))) i))), (7, .int (b2i (gq (fun j => !isW k (wy (io (12 * (2 * g + w) + (sz (2 * g + w) - 1 - j)) || !pd w) (mv (12 * (2 * g + w) + (sz (2 * g + w) - 1 - j))) (pv w))) i))), (8, .int (nI i))]) hx hb dX1_run_96 hl (by decide) rfl (fun ls hl => ?_)
    refine lv_iload hx hb dX1_run_98 (lv_at hl 8 rfl) ?_
    refine kb_eq (tgt := 123) hx hb dX1_run_100 (by decide) (fun c_5 => ?_) (fun c_5 => ?_)
    · refine lv_iconst (v := nI 0) hx hb dX1_run_123 (by decide) ?_
      refine lv_istore (lv' := [(7, .int (nI 0)), (9, .int (nI ((12 * (2 * g + w)) + (((sz (2 * g + w)) - 1) - i)))), (0, .ref k0), (1, .int (nI g)), (2, .int (nI w)), (3, .int (nI k)), (4, .int (b2i true)), (5, .int (nI (2 * g + w))), (6, .int (nI (nq (fun j => !isW k (wy (io (12 * (2 * g + w) + (sz (2 * g + w) - 1 - j)) || !pd w) (mv (12 * (2 * g + w) + (sz (2 * g + w) - 1 - j))) (pv w))) i))), (8, .int (nI i))]) hx hb dX1_run_124 hl (by decide) rfl (fun ls hl => ?_)
      refine lv_iload hx hb dX1_run_126 (lv_at hl 0 rfl) ?_
      refine kn_eq (tgt := 138) hx hb (by decide) dX1_run_128 (by decide) (fun _ => ?_) (fun h => absurd h (by decide))
      refine lv_iload hx hb dX1_run_138 (lv_at hl 8 rfl) ?_
      refine lv_istore (lv' := [(6, .int (nI (nq (fun j => !isW k (wy (io (12 * (2 * g + w) + (sz (2 * g + w) - 1 - j)) || !pd w) (mv (12 * (2 * g + w) + (sz (2 * g + w) - 1 - j))) (pv w))) i))), (7, .int (nI 0)), (9, .int (nI ((12 * (2 * g + w)) + (((sz (2 * g + w)) - 1) - i)))), (0, .ref k0), (1, .int (nI g)), (2, .int (nI w)), (3, .int (nI k)), (4, .int (b2i true)), (5, .int (nI (2 * g + w))), (8, .int (nI i))]) hx hb dX1_run_140 hl (by decide) rfl (fun ls hl => ?_)
      refine lv_iinc (v := nI (i + 1)) (lv' := [(8, .int (nI (i + 1))), (6, .int (nI (nq (fun j => !isW k (wy (io (12 * (2 * g + w) + (sz (2 * g + w) - 1 - j)) || !pd w) (mv (12 * (2 * g + w) + (sz (2 * g + w) - 1 - j))) (pv w))) i))), (7, .int (nI 0)), (9, .int (nI ((12 * (2 * g + w)) + (((sz (2 * g + w)) - 1) - i)))), (0, .ref k0), (1, .int (nI g)), (2, .int (nI w)), (3, .int (nI k)), (4, .int (b2i true)), (5, .int (nI (2 * g + w)))]) hx hb dX1_run_142 hl (k := 9) rfl (nI_add i 1) (by decide) rfl (fun ls hl => ?_)
      refine lv_goto (tgt := 56) hx hb dX1_run_145 (by decide) ?_
      have e_0 := gq_f (P := (fun j => !isW k (wy (io (12 * (2 * g + w) + (sz (2 * g + w) - 1 - j)) || !pd w) (mv (12 * (2 * g + w) + (sz (2 * g + w) - 1 - j))) (pv w)))) (i := i) c_5
      have e_1 : gq (fun j => !isW k (wy (io (12 * (2 * g + w) + (sz (2 * g + w) - 1 - j)) || !pd w) (mv (12 * (2 * g + w) + (sz (2 * g + w) - 1 - j))) (pv w))) (i + 1) = false := e_0.1
      have e_2 : nq (fun j => !isW k (wy (io (12 * (2 * g + w) + (sz (2 * g + w) - 1 - j)) || !pd w) (mv (12 * (2 * g + w) + (sz (2 * g + w) - 1 - j))) (pv w))) (i + 1) = nq (fun j => !isW k (wy (io (12 * (2 * g + w) + (sz (2 * g + w) - 1 - j)) || !pd w) (mv (12 * (2 * g + w) + (sz (2 * g + w) - 1 - j))) (pv w))) i := e_0.2
      exact ih (i + 1) ls (by omega) (by rw [e_1, e_2]; exact lv_sub hl [4, 5, 6, 7, 8, 9, 1, 2, 0] rfl)
    · refine lv_iload_n hx hb dX1_run_103 rfl (lv_at hl 4 rfl) ?_
      refine lv_aload_n hx hb dX1_run_104 rfl (lv_at hl 1 rfl) ?_
      refine lv_iload hx hb dX1_run_105 (lv_at hl 0 rfl) ?_
      refine lv_iload_n hx hb dX1_run_107 rfl (lv_at hl 3 rfl) ?_
      refine rd_calli (va_runV (As := [.int (nI ((12 * (2 * g + w)) + (((sz (2 * g + w)) - 1) - i))), .int (nI w)]) (rest := [.int (nI k)]) ⟨hx, hb, hml, hown, hts⟩ (c_X1_probeWay l D k0 kv ko ks km kt kp kb cZ cD cI (thr false false false) mv io sz mk se pv pd op mw hsz ((12 * (2 * g + w)) + (((sz (2 * g + w)) - 1) - i)) w (by omega) (by omega)) (cwV 2 hts gX1_run_X1_probeWay rfl rfl rfl (by decide +kernel) ⟨Nat.le_of_ble_eq_true rfl, Nat.le_of_ble_eq_true rfl⟩) ⟨fun a U g mk q => ⟨q.1, q.2.1, va_K.moved (u := U) (U := U.calling g mk a) (Vm.Alike.refl U.vm) q.2.2⟩, va_recv hK hP (ci := 2) (q0 := 0) rfl rfl, fun U hU hW => ⟨rfl, by rw [hU]; exact hP, va_K.moved hW.alike hK⟩⟩ rfl rfl hl.1 rfl (lv_room (Nat.le_of_ble_eq_true rfl)) dX1_run_108 ⟨Nat.le_of_ble_eq_true rfl, Nat.le_of_ble_eq_true rfl⟩) (fun r_6 hr_6 => ?_)
      subst hr_6
      refine rd_calli (va_runS (As := [.int (nI k), .int (nI (wy (io ((12 * (2 * g + w)) + (((sz (2 * g + w)) - 1) - i)) || !pd w) (mv ((12 * (2 * g + w)) + (((sz (2 * g + w)) - 1) - i))) (pv w)))]) (rest := []) ⟨hx, hb, hml, hown, hts⟩ (c_X1_is l k (wy (io ((12 * (2 * g + w)) + (((sz (2 * g + w)) - 1) - i)) || !pd w) (mv ((12 * (2 * g + w)) + (((sz (2 * g + w)) - 1) - i))) (pv w)) (by omega) (wy_lt _ _ _)) (va_cwS 2 hts gX1_run_X1_is rfl rfl rfl (by decide +kernel) ⟨Nat.le_of_ble_eq_true rfl, Nat.le_of_ble_eq_true rfl⟩) ⟨fun a U g mk q => q, fun U hU hW => ⟨rfl, trivial⟩⟩ rfl rfl hl.1 rfl (lv_room (Nat.le_of_ble_eq_true rfl)) dX1_run_111 ⟨Nat.le_of_ble_eq_true rfl, Nat.le_of_ble_eq_true rfl⟩) (fun r_7 hr_7 => ?_)
      subst hr_7
      refine lv_iload hx hb dX1_run_114 (lv_at hl 5 rfl) ?_
      refine kb_icmp_eq (tgt := 123) hx hb dX1_run_116 (by decide) (fun c_8 => ?_) (fun c_8 => ?_)
      · refine lv_iconst (v := nI 0) hx hb dX1_run_123 (by decide) ?_
        refine lv_istore (lv' := [(7, .int (nI 0)), (9, .int (nI ((12 * (2 * g + w)) + (((sz (2 * g + w)) - 1) - i)))), (0, .ref k0), (1, .int (nI g)), (2, .int (nI w)), (3, .int (nI k)), (4, .int (b2i true)), (5, .int (nI (2 * g + w))), (6, .int (nI (nq (fun j => !isW k (wy (io (12 * (2 * g + w) + (sz (2 * g + w) - 1 - j)) || !pd w) (mv (12 * (2 * g + w) + (sz (2 * g + w) - 1 - j))) (pv w))) i))), (8, .int (nI i))]) hx hb dX1_run_124 hl (by decide) rfl (fun ls hl => ?_)
        refine lv_iload hx hb dX1_run_126 (lv_at hl 0 rfl) ?_
        refine kn_eq (tgt := 138) hx hb (by decide) dX1_run_128 (by decide) (fun _ => ?_) (fun h => absurd h (by decide))
        refine lv_iload hx hb dX1_run_138 (lv_at hl 8 rfl) ?_
        refine lv_istore (lv' := [(6, .int (nI (nq (fun j => !isW k (wy (io (12 * (2 * g + w) + (sz (2 * g + w) - 1 - j)) || !pd w) (mv (12 * (2 * g + w) + (sz (2 * g + w) - 1 - j))) (pv w))) i))), (7, .int (nI 0)), (9, .int (nI ((12 * (2 * g + w)) + (((sz (2 * g + w)) - 1) - i)))), (0, .ref k0), (1, .int (nI g)), (2, .int (nI w)), (3, .int (nI k)), (4, .int (b2i true)), (5, .int (nI (2 * g + w))), (8, .int (nI i))]) hx hb dX1_run_140 hl (by decide) rfl (fun ls hl => ?_)
        refine lv_iinc (v := nI (i + 1)) (lv' := [(8, .int (nI (i + 1))), (6, .int (nI (nq (fun j => !isW k (wy (io (12 * (2 * g + w) + (sz (2 * g + w) - 1 - j)) || !pd w) (mv (12 * (2 * g + w) + (sz (2 * g + w) - 1 - j))) (pv w))) i))), (7, .int (nI 0)), (9, .int (nI ((12 * (2 * g + w)) + (((sz (2 * g + w)) - 1) - i)))), (0, .ref k0), (1, .int (nI g)), (2, .int (nI w)), (3, .int (nI k)), (4, .int (b2i true)), (5, .int (nI (2 * g + w)))]) hx hb dX1_run_142 hl (k := 9) rfl (nI_add i 1) (by decide) rfl (fun ls hl => ?_)
        refine lv_goto (tgt := 56) hx hb dX1_run_145 (by decide) ?_
        have e_0 := gq_tf (P := (fun j => !isW k (wy (io (12 * (2 * g + w) + (sz (2 * g + w) - 1 - j)) || !pd w) (mv (12 * (2 * g + w) + (sz (2 * g + w) - 1 - j))) (pv w)))) (i := i) c_5 (by simp [c_8])
        have e_1 : gq (fun j => !isW k (wy (io (12 * (2 * g + w) + (sz (2 * g + w) - 1 - j)) || !pd w) (mv (12 * (2 * g + w) + (sz (2 * g + w) - 1 - j))) (pv w))) (i + 1) = false := e_0.1
        have e_2 : nq (fun j => !isW k (wy (io (12 * (2 * g + w) + (sz (2 * g + w) - 1 - j)) || !pd w) (mv (12 * (2 * g + w) + (sz (2 * g + w) - 1 - j))) (pv w))) (i + 1) = nq (fun j => !isW k (wy (io (12 * (2 * g + w) + (sz (2 * g + w) - 1 - j)) || !pd w) (mv (12 * (2 * g + w) + (sz (2 * g + w) - 1 - j))) (pv w))) i := e_0.2
        exact ih (i + 1) ls (by omega) (by rw [e_1, e_2]; exact lv_sub hl [4, 5, 6, 7, 8, 9, 1, 2, 0] rfl)
      · refine lv_iconst (v := nI 1) hx hb dX1_run_119 (by decide) ?_
        refine lv_goto (tgt := 124) hx hb dX1_run_120 (by decide) ?_
        refine lv_istore (lv' := [(7, .int (nI 1)), (9, .int (nI ((12 * (2 * g + w)) + (((sz (2 * g + w)) - 1) - i)))), (0, .ref k0), (1, .int (nI g)), (2, .int (nI w)), (3, .int (nI k)), (4, .int (b2i true)), (5, .int (nI (2 * g + w))), (6, .int (nI (nq (fun j => !isW k (wy (io (12 * (2 * g + w) + (sz (2 * g + w) - 1 - j)) || !pd w) (mv (12 * (2 * g + w) + (sz (2 * g + w) - 1 - j))) (pv w))) i))), (8, .int (nI i))]) hx hb dX1_run_124 hl (by decide) rfl (fun ls hl => ?_)
        refine lv_iload hx hb dX1_run_126 (lv_at hl 0 rfl) ?_
        refine kn_eq (tgt := 138) hx hb (by decide) dX1_run_128 (by decide) (fun h => absurd h (by decide)) (fun _ => ?_)
        refine lv_iload hx hb dX1_run_131 (lv_at hl 8 rfl) ?_
        refine lv_iconst (v := nI 1) hx hb dX1_run_133 (by decide) ?_
        refine kn_iadd hx hb dX1_run_134 ?_
        refine lv_goto (tgt := 140) hx hb dX1_run_135 (by decide) ?_
        refine lv_istore (lv' := [(6, .int (nI ((nq (fun j => !isW k (wy (io (12 * (2 * g + w) + (sz (2 * g + w) - 1 - j)) || !pd w) (mv (12 * (2 * g + w) + (sz (2 * g + w) - 1 - j))) (pv w))) i) + 1))), (7, .int (nI 1)), (9, .int (nI ((12 * (2 * g + w)) + (((sz (2 * g + w)) - 1) - i)))), (0, .ref k0), (1, .int (nI g)), (2, .int (nI w)), (3, .int (nI k)), (4, .int (b2i true)), (5, .int (nI (2 * g + w))), (8, .int (nI i))]) hx hb dX1_run_140 hl (by decide) rfl (fun ls hl => ?_)
        refine lv_iinc (v := nI (i + 1)) (lv' := [(8, .int (nI (i + 1))), (6, .int (nI ((nq (fun j => !isW k (wy (io (12 * (2 * g + w) + (sz (2 * g + w) - 1 - j)) || !pd w) (mv (12 * (2 * g + w) + (sz (2 * g + w) - 1 - j))) (pv w))) i) + 1))), (7, .int (nI 1)), (9, .int (nI ((12 * (2 * g + w)) + (((sz (2 * g + w)) - 1) - i)))), (0, .ref k0), (1, .int (nI g)), (2, .int (nI w)), (3, .int (nI k)), (4, .int (b2i true)), (5, .int (nI (2 * g + w)))]) hx hb dX1_run_142 hl (k := 9) rfl (nI_add i 1) (by decide) rfl (fun ls hl => ?_)
        refine lv_goto (tgt := 56) hx hb dX1_run_145 (by decide) ?_
        have e_0 := gq_tt (P := (fun j => !isW k (wy (io (12 * (2 * g + w) + (sz (2 * g + w) - 1 - j)) || !pd w) (mv (12 * (2 * g + w) + (sz (2 * g + w) - 1 - j))) (pv w)))) (i := i) c_5 (by simp [c_8])
        have e_1 : gq (fun j => !isW k (wy (io (12 * (2 * g + w) + (sz (2 * g + w) - 1 - j)) || !pd w) (mv (12 * (2 * g + w) + (sz (2 * g + w) - 1 - j))) (pv w))) (i + 1) = true := e_0.1
        have e_2 : nq (fun j => !isW k (wy (io (12 * (2 * g + w) + (sz (2 * g + w) - 1 - j)) || !pd w) (mv (12 * (2 * g + w) + (sz (2 * g + w) - 1 - j))) (pv w))) (i + 1) = (nq (fun j => !isW k (wy (io (12 * (2 * g + w) + (sz (2 * g + w) - 1 - j)) || !pd w) (mv (12 * (2 * g + w) + (sz (2 * g + w) - 1 - j))) (pv w))) i) + 1 := e_0.2
        exact ih (i + 1) ls (by omega) (by rw [e_1, e_2]; exact lv_sub hl [4, 5, 6, 7, 8, 9, 1, 2, 0] rfl)
set_option maxHeartbeats 4000000 in
set_option maxRecDepth 100000 in
theorem c_X1_run_false (l : Launch) (D : va_G) (k0 kv ko ks km kt kp kb : Nat) (cZ cD cI : ClassId) (th : Nat) (mv : Nat → UInt64) (io : Nat → Bool) (sz : Nat → Nat) (mk : Nat → UInt64) (se : Nat → Bool) (pv : Nat → UInt64) (pd : Nat → Bool) (op : Bool) (mw : Int32) (hsz : ∀ j, sz j ≤ 12) (zz : Nat) (g : Nat) (w : Nat) (k : Nat) (hg : g < 6) (hw : w < 2) (hk : k < 6) : Met l yX1_run wsX1_run ({ frames := 2, cells := 0, slots := 0, locals := 46 }) (va_Pc [.ref k0, .int (nI g), .int (nI w), .int (nI k), .int (b2i false)] (fun U => U.heap.size = zz ∧ va_P D vwCl (WM k0 kv ko ks km kt kp kb cZ cD cI th mv io sz mk se pv pd op mw) U.heap ∧ va_K D vwCl (TY cZ cD cI) U ∧ va_D (fun _ => True) (WM k0 kv ko ks km kt kp kb cZ cD cI th mv io sz mk se pv pd op mw))) (wr_Qi (fun r => r = nI (nq (fun j => isW k (wy (io (12 * (2 * g + w) + j) || !pd w) (mv (12 * (2 * g + w) + j)) (pv w))) (sz (2 * g + w)))) (fun H => va_P D vwCl (WM k0 kv ko ks km kt kp kb cZ cD cI (thr false false false) mv io sz mk se pv pd op mw) H) (va_A (WM k0 kv ko ks km kt kp kb cZ cD cI th mv io sz mk se pv pd op mw) zz))  0 0 (va_A (WM k0 kv ko ks km kt kp kb cZ cD cI th mv io sz mk se pv pd op mw) zz) := by
  refine Met.ofW (cc := cX1_run) (maxL := 10) (ret := some .int) (by decide) rfl ?_
  intro p e s m args below meth c s₁ B hml hv
  obtain ⟨rfl, hsz_, hP, hK, hD0⟩ := hv
  have hx := B.exec
  have hb := B.bytes
  have hr := B.returns
  have hts := atoms_spec (ws := wsX1_run) B.pre
  have hown : s.vm.findClass RX1 = some m.cls := findClass_of_methodNamed B.named
  have hlocks := B.notSynchronized
  subst hsz_
  have hD := hD0.self (sz := s.heap.size)
  generalize hAe : va_A (WM k0 kv ko ks km kt kp kb cZ cD cI th mv io sz mk se pv pd op mw) s.heap.size = A at hD ⊢
  have hA : ∀ q : Nat, s.heap.size ≤ q → A q := fun q h => by rw [← hAe]; exact Or.inr h
  have hS : va_S A s.heap s.heap [] := va_S.rf
  have hl := lv_entry ([.ref k0, .int (nI g), .int (nI w), .int (nI k), .int (b2i false)]) (n := 10) (Nat.le_of_ble_eq_true rfl)
  rw [lg_entry_eq]
  generalize (lg_sl ([.ref k0, .int (nI g), .int (nI w), .int (nI k), .int (b2i false)]) ++ List.replicate (10 - (lg_sl ([.ref k0, .int (nI g), .int (nI w), .int (nI k), .int (b2i false)])).length) Slot.unset).toArray = ls at hl ⊢
  have hl : lv_has ls 10 [(0, .ref k0), (1, .int (nI g)), (2, .int (nI w)), (3, .int (nI k)), (4, .int (b2i false))] := hl
  have hinRX1 : ∀ w ∈ wsX10, w ∈ wsX1_run := by decide +kernel
  have hf_17 := hts (.fieldLink RX1 17 "HarbourBoardModel" "sizes" "[I") (by decide +kernel)
  have h1 := hsz (2 * g + w)
  refine lv_aload_n hx hb dX1_run_0 rfl (lv_at hl 0 rfl) ?_
  refine lv_iload_n hx hb dX1_run_1 rfl (lv_at hl 1 rfl) ?_
  refine lv_iconst (v := nI 5) hx hb dX1_run_2 (by decide) ?_
  refine rd_calli (va_runS (As := [.int (nI g), .int (nI 5)]) (rest := [.ref k0]) ⟨hx, hb, hml, hown, hts⟩ (c_X1_inside l g 5 (by omega) (by omega)) (va_cwS 2 hts gX1_run_X1_outside rfl rfl rfl (by decide +kernel) ⟨Nat.le_of_ble_eq_true rfl, Nat.le_of_ble_eq_true rfl⟩) ⟨fun a U g mk q => q, fun U hU hW => ⟨rfl, trivial⟩⟩ rfl rfl hl.1 rfl (lv_room (Nat.le_of_ble_eq_true rfl)) dX1_run_3 ⟨Nat.le_of_ble_eq_true rfl, Nat.le_of_ble_eq_true rfl⟩) (fun r_1 hr_1 => ?_)
  subst hr_1
  refine kb_ne (tgt := 25) hx hb dX1_run_6 (by decide) (fun h => absurd h (by decide)) (fun _ => ?_)
  refine lv_iload_n hx hb dX1_run_9 rfl (lv_at hl 2 rfl) ?_
  refine lv_iconst (v := nI 1) hx hb dX1_run_10 (by decide) ?_
  refine rd_calli (va_runS (As := [.int (nI w), .int (nI 1)]) (rest := [.ref k0]) ⟨hx, hb, hml, hown, hts⟩ (c_X1_inside l w 1 (by omega) (by omega)) (va_cwS 2 hts gX1_run_X1_outside rfl rfl rfl (by decide +kernel) ⟨Nat.le_of_ble_eq_true rfl, Nat.le_of_ble_eq_true rfl⟩) ⟨fun a U g mk q => q, fun U hU hW => ⟨rfl, trivial⟩⟩ rfl rfl hl.1 rfl (lv_room (Nat.le_of_ble_eq_true rfl)) dX1_run_11 ⟨Nat.le_of_ble_eq_true rfl, Nat.le_of_ble_eq_true rfl⟩) (fun r_2 hr_2 => ?_)
  subst hr_2
  refine kb_ne (tgt := 25) hx hb dX1_run_14 (by decide) (fun h => absurd h (by decide)) (fun _ => ?_)
  refine lv_iload_n hx hb dX1_run_17 rfl (lv_at hl 3 rfl) ?_
  refine lv_iconst (v := nI 5) hx hb dX1_run_18 (by decide) ?_
  refine rd_calli (va_runS (As := [.int (nI k), .int (nI 5)]) (rest := [.ref k0]) ⟨hx, hb, hml, hown, hts⟩ (c_X1_inside l k 5 (by omega) (by omega)) (va_cwS 2 hts gX1_run_X1_outside rfl rfl rfl (by decide +kernel) ⟨Nat.le_of_ble_eq_true rfl, Nat.le_of_ble_eq_true rfl⟩) ⟨fun a U g mk q => q, fun U hU hW => ⟨rfl, trivial⟩⟩ rfl rfl hl.1 rfl (lv_room (Nat.le_of_ble_eq_true rfl)) dX1_run_19 ⟨Nat.le_of_ble_eq_true rfl, Nat.le_of_ble_eq_true rfl⟩) (fun r_3 hr_3 => ?_)
  subst hr_3
  refine kb_eq (tgt := 29) hx hb dX1_run_22 (by decide) (fun _ => ?_) (fun h => absurd h (by decide))
  refine lv_iconst (v := nI 0) hx hb dX1_run_29 (by decide) ?_
  refine lv_iconst (v := nI 0) hx hb dX1_run_30 (by decide) ?_
  refine lv_iconst (v := nI 0) hx hb dX1_run_31 (by decide) ?_
  have hFc := va_free (wc := WM k0 kv ko ks km kt kp kb cZ cD cI th mv io sz mk se pv pd op mw) hD hS hA [0, 1, 2, 3, 4, 5, 6, 7] rfl
  refine wr_calli (va_runV (As := [.int (b2i false), .int (b2i false), .int (b2i false)]) (rest := []) ⟨hx, hb, hml, hown, hts⟩ (c_X1_throwing l D k0 kv ko ks km kt kp kb cZ cD cI th mv io sz mk se pv pd op mw hsz s.heap.size false false false ) (cwV 3 hts gX1_run_X1_throwing rfl rfl rfl (by decide +kernel) ⟨Nat.le_of_ble_eq_true rfl, Nat.le_of_ble_eq_true rfl⟩) ⟨fun a U g mk q => ⟨q.1, q.2.1, q.2.2.1, va_K.moved (u := U) (U := U.calling g mk a) (Vm.Alike.refl U.vm) q.2.2.2.1, q.2.2.2.2⟩, va_recv hK hP (ci := 2) (q0 := 0) rfl rfl, fun U hU hW => ⟨rfl, by rw [hU], by rw [hU]; exact hP, va_K.moved hW.alike hK, hD.weaken (fun _ _ _ _ => trivial)⟩⟩ rfl rfl hl.1 rfl (lv_room (Nat.le_of_ble_eq_true rfl)) dX1_run_32 ⟨Nat.le_of_ble_eq_true rfl, Nat.le_of_ble_eq_true rfl⟩) hS hFc (fun r_4 H locs hr_4 hP _ _ hS => ?_)
  subst hr_4
  refine kt_i (y := b2i false) rfl ?_
  have hD : va_D A (WM k0 kv ko ks km kt kp kb cZ cD cI (thr false false false) mv io sz mk se pv pd op mw) := va_D_same (ws := WM k0 kv ko ks km kt kp kb cZ cD cI th mv io sz mk se pv pd op mw) rfl hD
  have hP : va_P D vwCl (WM k0 kv ko ks km kt kp kb cZ cD cI (thr false false false) mv io sz mk se pv pd op mw) H := hP
  refine kb_eq (tgt := 40) hx hb dX1_run_35 (by decide) (fun _ => ?_) (fun h => absurd h (by decide))
  refine lv_iconst (v := nI 2) hx hb dX1_run_40 (by decide) ?_
  refine lv_iload_n hx hb dX1_run_41 rfl (lv_at hl 1 rfl) ?_
  refine kn_imul hx hb dX1_run_42 ?_
  refine lv_iload_n hx hb dX1_run_43 rfl (lv_at hl 2 rfl) ?_
  refine kn_iadd hx hb dX1_run_44 ?_
  refine lv_istore (lv' := [(5, .int (nI ((2 * g) + w))), (0, .ref k0), (1, .int (nI g)), (2, .int (nI w)), (3, .int (nI k)), (4, .int (b2i false))]) hx hb dX1_run_45 hl (by decide) rfl (fun ls hl => ?_)
  refine lv_iconst (v := nI 0) hx hb dX1_run_47 (by decide) ?_
  refine lv_istore (lv' := [(6, .int (nI 0)), (5, .int (nI ((2 * g) + w))), (0, .ref k0), (1, .int (nI g)), (2, .int (nI w)), (3, .int (nI k)), (4, .int (b2i false))]) hx hb dX1_run_48 hl (by decide) rfl (fun ls hl => ?_)
  refine lv_iconst (v := nI 1) hx hb dX1_run_50 (by decide) ?_
  refine lv_istore (lv' := [(7, .int (nI 1)), (6, .int (nI 0)), (5, .int (nI ((2 * g) + w))), (0, .ref k0), (1, .int (nI g)), (2, .int (nI w)), (3, .int (nI k)), (4, .int (b2i false))]) hx hb dX1_run_51 hl (by decide) rfl (fun ls hl => ?_)
  refine lv_iconst (v := nI 0) hx hb dX1_run_53 (by decide) ?_
  refine lv_istore (lv' := [(8, .int (nI 0)), (7, .int (nI 1)), (6, .int (nI 0)), (5, .int (nI ((2 * g) + w))), (0, .ref k0), (1, .int (nI g)), (2, .int (nI w)), (3, .int (nI k)), (4, .int (b2i false))]) hx hb dX1_run_54 hl (by decide) rfl (fun ls hl => ?_)
  refine (?_ : ∀ (k_ i : Nat) (ls : Array Slot), i + k_ = sz (2 * g + w) → lv_has ls 10 [(0, .ref k0), (1, .int (nI g)), (2, .int (nI w)), (3, .int (nI k)), (4, .int (b2i false)), (5, .int (nI (2 * g + w))), (6, .int (nI (nq (fun j => isW k (wy (io (12 * (2 * g + w) + j) || !pd w) (mv (12 * (2 * g + w) + j)) (pv w))) i))), (7, .int (b2i (gq (fun j => isW k (wy (io (12 * (2 * g + w) + j) || !pd w) (mv (12 * (2 * g + w) + j)) (pv w))) i))), (8, .int (nI i))] → W p l e _ s m _ below meth c _ _ _ _ _ (F0 m 56 ls [])) (sz (2 * g + w)) 0 ls (by omega) (lv_sub hl [4, 5, 6, 7, 8, 3, 2, 1, 0] rfl)
  clear hl
  intro k_
  induction k_ with
  | zero =>
    intro i ls hi hl
    refine lv_iload hx hb dX1_run_56 (lv_at hl 8 rfl) ?_
    refine lv_aload_n hx hb dX1_run_58 rfl (lv_at hl 0 rfl) ?_
    refine va_get (D := D) (ci := 2) (v := .ref ks) (C := RX1) (T := TX1) (N := 10) hx hb hts hinRX1 hown hK hP 0 rfl rfl 3 (by decide) hf_17 (fun _ h9 => h9) rfl dX1_run_59 ?_
    refine lv_iload hx hb dX1_run_62 (lv_at hl 5 rfl) ?_
    refine kn_iald hx hb hK hP 3 2 rfl rfl (by omega) (by decide) dX1_run_64 ?_
    refine kn_icmp_ge (tgt := 148) hx hb (by omega) (by omega) dX1_run_65 (by decide) (fun c_x => ?_) (fun h => absurd h (by omega))
    refine lv_iload hx hb dX1_run_148 (lv_at hl 6 rfl) ?_
    refine W.widen (k := 0) (n := 0) (Nat.le_of_ble_eq_true rfl) (Nat.le_of_ble_eq_true rfl) ?_
    exact W.iret (v := nI (nq (fun j => isW k (wy (io (12 * (2 * g + w) + j) || !pd w) (mv (12 * (2 * g + w) + j)) (pv w))) i)) hx hb hr (fun t9 ht9 hW9 => ⟨⟨_, rfl, by rw [show i = sz (2 * g + w) by omega], by rw [ht9]; exact hP⟩, hS.F ht9⟩) hS.2.2 dX1_run_150
  | succ k_ ih =>
    intro i ls hi hl
    refine lv_iload hx hb dX1_run_56 (lv_at hl 8 rfl) ?_
    refine lv_aload_n hx hb dX1_run_58 rfl (lv_at hl 0 rfl) ?_
    refine va_get (D := D) (ci := 2) (v := .ref ks) (C := RX1) (T := TX1) (N := 10) hx hb hts hinRX1 hown hK hP 0 rfl rfl 3 (by decide) hf_17 (fun _ h9 => h9) rfl dX1_run_59 ?_
    refine lv_iload hx hb dX1_run_62 (lv_at hl 5 rfl) ?_
    refine kn_iald hx hb hK hP 3 2 rfl rfl (by omega) (by decide) dX1_run_64 ?_
    refine kn_icmp_ge (tgt := 148) hx hb (by omega) (by omega) dX1_run_65 (by decide) (fun h => absurd h (by omega)) (fun c_x => ?_)
    refine lv_bipush (v := nI 12) hx hb dX1_run_68 (by decide) ?_
    refine lv_iload hx hb dX1_run_70 (lv_at hl 5 rfl) ?_
    refine kn_imul hx hb dX1_run_72 ?_
    refine lv_iload hx hb dX1_run_73 (lv_at hl 4 rfl) ?_
    refine kb_eq (tgt := 93) hx hb dX1_run_75 (by decide) (fun _ => ?_) (fun h => absurd h (by decide))
    refine lv_iload hx hb dX1_run_93 (lv_at hl 8 rfl) ?_
    refine kn_iadd hx hb dX1_run_95 ?_
    refine lv_istore (lv' := [(9, .int (nI ((12 * (2 * g + w)) + i))), (0, .ref k0), (1, .int (nI g)), (2, .int (nI w)), (3, .int (nI k)), (4, .int (b2i false)), (5, .int (nI (2 * g + w))), (6, .int (nI (nq (fun j => isW k (wy (io (12 * (2 * g + w) + j) || !pd w) (mv (12 * (2 * g + w) + j)) (pv w))) i))), (7, .int (b2i (gq (fun j => isW k (wy (io (12 * (2 * g + w) + j) || !pd w) (mv (12 * (2 * g + w) + j)) (pv w))) i))), (8, .int (nI i))]) hx hb dX1_run_96 hl (by decide) rfl (fun ls hl => ?_)
    refine lv_iload hx hb dX1_run_98 (lv_at hl 8 rfl) ?_
    refine kb_eq (tgt := 123) hx hb dX1_run_100 (by decide) (fun c_5 => ?_) (fun c_5 => ?_)
    · refine lv_iconst (v := nI 0) hx hb dX1_run_123 (by decide) ?_
      refine lv_istore (lv' := [(7, .int (nI 0)), (9, .int (nI ((12 * (2 * g + w)) + i))), (0, .ref k0), (1, .int (nI g)), (2, .int (nI w)), (3, .int (nI k)), (4, .int (b2i false)), (5, .int (nI (2 * g + w))), (6, .int (nI (nq (fun j => isW k (wy (io (12 * (2 * g + w) + j) || !pd w) (mv (12 * (2 * g + w) + j)) (pv w))) i))), (8, .int (nI i))]) hx hb dX1_run_124 hl (by decide) rfl (fun ls hl => ?_)
      refine lv_iload hx hb dX1_run_126 (lv_at hl 0 rfl) ?_
      refine kn_eq (tgt := 138) hx hb (by decide) dX1_run_128 (by decide) (fun _ => ?_) (fun h => absurd h (by decide))
      refine lv_iload hx hb dX1_run_138 (lv_at hl 8 rfl) ?_
      refine lv_istore (lv' := [(6, .int (nI (nq (fun j => isW k (wy (io (12 * (2 * g + w) + j) || !pd w) (mv (12 * (2 * g + w) + j)) (pv w))) i))), (7, .int (nI 0)), (9, .int (nI ((12 * (2 * g + w)) + i))), (0, .ref k0), (1, .int (nI g)), (2, .int (nI w)), (3, .int (nI k)), (4, .int (b2i false)), (5, .int (nI (2 * g + w))), (8, .int (nI i))]) hx hb dX1_run_140 hl (by decide) rfl (fun ls hl => ?_)
      refine lv_iinc (v := nI (i + 1)) (lv' := [(8, .int (nI (i + 1))), (6, .int (nI (nq (fun j => isW k (wy (io (12 * (2 * g + w) + j) || !pd w) (mv (12 * (2 * g + w) + j)) (pv w))) i))), (7, .int (nI 0)), (9, .int (nI ((12 * (2 * g + w)) + i))), (0, .ref k0), (1, .int (nI g)), (2, .int (nI w)), (3, .int (nI k)), (4, .int (b2i false)), (5, .int (nI (2 * g + w)))]) hx hb dX1_run_142 hl (k := 9) rfl (nI_add i 1) (by decide) rfl (fun ls hl => ?_)
      refine lv_goto (tgt := 56) hx hb dX1_run_145 (by decide) ?_
      have e_0 := gq_f (P := (fun j => isW k (wy (io (12 * (2 * g + w) + j) || !pd w) (mv (12 * (2 * g + w) + j)) (pv w)))) (i := i) c_5
      have e_1 : gq (fun j => isW k (wy (io (12 * (2 * g + w) + j) || !pd w) (mv (12 * (2 * g + w) + j)) (pv w))) (i + 1) = false := e_0.1
      have e_2 : nq (fun j => isW k (wy (io (12 * (2 * g + w) + j) || !pd w) (mv (12 * (2 * g + w) + j)) (pv w))) (i + 1) = nq (fun j => isW k (wy (io (12 * (2 * g + w) + j) || !pd w) (mv (12 * (2 * g + w) + j)) (pv w))) i := e_0.2
      exact ih (i + 1) ls (by omega) (by rw [e_1, e_2]; exact lv_sub hl [4, 5, 6, 7, 8, 9, 1, 2, 0] rfl)
    · refine lv_iload_n hx hb dX1_run_103 rfl (lv_at hl 4 rfl) ?_
      refine lv_aload_n hx hb dX1_run_104 rfl (lv_at hl 1 rfl) ?_
      refine lv_iload hx hb dX1_run_105 (lv_at hl 0 rfl) ?_
      refine lv_iload_n hx hb dX1_run_107 rfl (lv_at hl 3 rfl) ?_
      refine rd_calli (va_runV (As := [.int (nI ((12 * (2 * g + w)) + i)), .int (nI w)]) (rest := [.int (nI k)]) ⟨hx, hb, hml, hown, hts⟩ (c_X1_probeWay l D k0 kv ko ks km kt kp kb cZ cD cI (thr false false false) mv io sz mk se pv pd op mw hsz ((12 * (2 * g + w)) + i) w (by omega) (by omega)) (cwV 2 hts gX1_run_X1_probeWay rfl rfl rfl (by decide +kernel) ⟨Nat.le_of_ble_eq_true rfl, Nat.le_of_ble_eq_true rfl⟩) ⟨fun a U g mk q => ⟨q.1, q.2.1, va_K.moved (u := U) (U := U.calling g mk a) (Vm.Alike.refl U.vm) q.2.2⟩, va_recv hK hP (ci := 2) (q0 := 0) rfl rfl, fun U hU hW => ⟨rfl, by rw [hU]; exact hP, va_K.moved hW.alike hK⟩⟩ rfl rfl hl.1 rfl (lv_room (Nat.le_of_ble_eq_true rfl)) dX1_run_108 ⟨Nat.le_of_ble_eq_true rfl, Nat.le_of_ble_eq_true rfl⟩) (fun r_6 hr_6 => ?_)
      subst hr_6
      refine rd_calli (va_runS (As := [.int (nI k), .int (nI (wy (io ((12 * (2 * g + w)) + i) || !pd w) (mv ((12 * (2 * g + w)) + i)) (pv w)))]) (rest := []) ⟨hx, hb, hml, hown, hts⟩ (c_X1_is l k (wy (io ((12 * (2 * g + w)) + i) || !pd w) (mv ((12 * (2 * g + w)) + i)) (pv w)) (by omega) (wy_lt _ _ _)) (va_cwS 2 hts gX1_run_X1_is rfl rfl rfl (by decide +kernel) ⟨Nat.le_of_ble_eq_true rfl, Nat.le_of_ble_eq_true rfl⟩) ⟨fun a U g mk q => q, fun U hU hW => ⟨rfl, trivial⟩⟩ rfl rfl hl.1 rfl (lv_room (Nat.le_of_ble_eq_true rfl)) dX1_run_111 ⟨Nat.le_of_ble_eq_true rfl, Nat.le_of_ble_eq_true rfl⟩) (fun r_7 hr_7 => ?_)
      subst hr_7
      refine lv_iload hx hb dX1_run_114 (lv_at hl 5 rfl) ?_
      refine kb_icmp_eq (tgt := 123) hx hb dX1_run_116 (by decide) (fun c_8 => ?_) (fun c_8 => ?_)
      · refine lv_iconst (v := nI 0) hx hb dX1_run_123 (by decide) ?_
        refine lv_istore (lv' := [(7, .int (nI 0)), (9, .int (nI ((12 * (2 * g + w)) + i))), (0, .ref k0), (1, .int (nI g)), (2, .int (nI w)), (3, .int (nI k)), (4, .int (b2i false)), (5, .int (nI (2 * g + w))), (6, .int (nI (nq (fun j => isW k (wy (io (12 * (2 * g + w) + j) || !pd w) (mv (12 * (2 * g + w) + j)) (pv w))) i))), (8, .int (nI i))]) hx hb dX1_run_124 hl (by decide) rfl (fun ls hl => ?_)
        refine lv_iload hx hb dX1_run_126 (lv_at hl 0 rfl) ?_
        refine kn_eq (tgt := 138) hx hb (by decide) dX1_run_128 (by decide) (fun _ => ?_) (fun h => absurd h (by decide))
        refine lv_iload hx hb dX1_run_138 (lv_at hl 8 rfl) ?_
        refine lv_istore (lv' := [(6, .int (nI (nq (fun j => isW k (wy (io (12 * (2 * g + w) + j) || !pd w) (mv (12 * (2 * g + w) + j)) (pv w))) i))), (7, .int (nI 0)), (9, .int (nI ((12 * (2 * g + w)) + i))), (0, .ref k0), (1, .int (nI g)), (2, .int (nI w)), (3, .int (nI k)), (4, .int (b2i false)), (5, .int (nI (2 * g + w))), (8, .int (nI i))]) hx hb dX1_run_140 hl (by decide) rfl (fun ls hl => ?_)
        refine lv_iinc (v := nI (i + 1)) (lv' := [(8, .int (nI (i + 1))), (6, .int (nI (nq (fun j => isW k (wy (io (12 * (2 * g + w) + j) || !pd w) (mv (12 * (2 * g + w) + j)) (pv w))) i))), (7, .int (nI 0)), (9, .int (nI ((12 * (2 * g + w)) + i))), (0, .ref k0), (1, .int (nI g)), (2, .int (nI w)), (3, .int (nI k)), (4, .int (b2i false)), (5, .int (nI (2 * g + w)))]) hx hb dX1_run_142 hl (k := 9) rfl (nI_add i 1) (by decide) rfl (fun ls hl => ?_)
        refine lv_goto (tgt := 56) hx hb dX1_run_145 (by decide) ?_
        have e_0 := gq_tf (P := (fun j => isW k (wy (io (12 * (2 * g + w) + j) || !pd w) (mv (12 * (2 * g + w) + j)) (pv w)))) (i := i) c_5 c_8
        have e_1 : gq (fun j => isW k (wy (io (12 * (2 * g + w) + j) || !pd w) (mv (12 * (2 * g + w) + j)) (pv w))) (i + 1) = false := e_0.1
        have e_2 : nq (fun j => isW k (wy (io (12 * (2 * g + w) + j) || !pd w) (mv (12 * (2 * g + w) + j)) (pv w))) (i + 1) = nq (fun j => isW k (wy (io (12 * (2 * g + w) + j) || !pd w) (mv (12 * (2 * g + w) + j)) (pv w))) i := e_0.2
        exact ih (i + 1) ls (by omega) (by rw [e_1, e_2]; exact lv_sub hl [4, 5, 6, 7, 8, 9, 1, 2, 0] rfl)
      · refine lv_iconst (v := nI 1) hx hb dX1_run_119 (by decide) ?_
        refine lv_goto (tgt := 124) hx hb dX1_run_120 (by decide) ?_
        refine lv_istore (lv' := [(7, .int (nI 1)), (9, .int (nI ((12 * (2 * g + w)) + i))), (0, .ref k0), (1, .int (nI g)), (2, .int (nI w)), (3, .int (nI k)), (4, .int (b2i false)), (5, .int (nI (2 * g + w))), (6, .int (nI (nq (fun j => isW k (wy (io (12 * (2 * g + w) + j) || !pd w) (mv (12 * (2 * g + w) + j)) (pv w))) i))), (8, .int (nI i))]) hx hb dX1_run_124 hl (by decide) rfl (fun ls hl => ?_)
        refine lv_iload hx hb dX1_run_126 (lv_at hl 0 rfl) ?_
        refine kn_eq (tgt := 138) hx hb (by decide) dX1_run_128 (by decide) (fun h => absurd h (by decide)) (fun _ => ?_)
        refine lv_iload hx hb dX1_run_131 (lv_at hl 8 rfl) ?_
        refine lv_iconst (v := nI 1) hx hb dX1_run_133 (by decide) ?_
        refine kn_iadd hx hb dX1_run_134 ?_
        refine lv_goto (tgt := 140) hx hb dX1_run_135 (by decide) ?_
        refine lv_istore (lv' := [(6, .int (nI ((nq (fun j => isW k (wy (io (12 * (2 * g + w) + j) || !pd w) (mv (12 * (2 * g + w) + j)) (pv w))) i) + 1))), (7, .int (nI 1)), (9, .int (nI ((12 * (2 * g + w)) + i))), (0, .ref k0), (1, .int (nI g)), (2, .int (nI w)), (3, .int (nI k)), (4, .int (b2i false)), (5, .int (nI (2 * g + w))), (8, .int (nI i))]) hx hb dX1_run_140 hl (by decide) rfl (fun ls hl => ?_)
        refine lv_iinc (v := nI (i + 1)) (lv' := [(8, .int (nI (i + 1))), (6, .int (nI ((nq (fun j => isW k (wy (io (12 * (2 * g + w) + j) || !pd w) (mv (12 * (2 * g + w) + j)) (pv w))) i) + 1))), (7, .int (nI 1)), (9, .int (nI ((12 * (2 * g + w)) + i))), (0, .ref k0), (1, .int (nI g)), (2, .int (nI w)), (3, .int (nI k)), (4, .int (b2i false)), (5, .int (nI (2 * g + w)))]) hx hb dX1_run_142 hl (k := 9) rfl (nI_add i 1) (by decide) rfl (fun ls hl => ?_)
        refine lv_goto (tgt := 56) hx hb dX1_run_145 (by decide) ?_
        have e_0 := gq_tt (P := (fun j => isW k (wy (io (12 * (2 * g + w) + j) || !pd w) (mv (12 * (2 * g + w) + j)) (pv w)))) (i := i) c_5 (bnt c_8)
        have e_1 : gq (fun j => isW k (wy (io (12 * (2 * g + w) + j) || !pd w) (mv (12 * (2 * g + w) + j)) (pv w))) (i + 1) = true := e_0.1
        have e_2 : nq (fun j => isW k (wy (io (12 * (2 * g + w) + j) || !pd w) (mv (12 * (2 * g + w) + j)) (pv w))) (i + 1) = (nq (fun j => isW k (wy (io (12 * (2 * g + w) + j) || !pd w) (mv (12 * (2 * g + w) + j)) (pv w))) i) + 1 := e_0.2
        exact ih (i + 1) ls (by omega) (by rw [e_1, e_2]; exact lv_sub hl [4, 5, 6, 7, 8, 9, 1, 2, 0] rfl)
set_option maxHeartbeats 4000000 in
set_option maxRecDepth 100000 in
theorem c_X1_count (l : Launch) (D : va_G) (k0 kv ko ks km kt kp kb : Nat) (cZ cD cI : ClassId) (th : Nat) (mv : Nat → UInt64) (io : Nat → Bool) (sz : Nat → Nat) (mk : Nat → UInt64) (se : Nat → Bool) (pv : Nat → UInt64) (pd : Nat → Bool) (op : Bool) (mw : Int32) (hsz : ∀ j, sz j ≤ 12) (zz : Nat) (g : Nat) (w : Nat) (k : Nat) (b : Bool) (hg : g < 6) (hw : w < 2) (hk : k < 6) : Met l yX1_count wsX1_count ({ frames := 2, cells := 0, slots := 0, locals := 46 }) (va_Pc [.ref k0, .int (nI g), .int (nI w), .int (nI k), .int (b2i b)] (fun U => U.heap.size = zz ∧ va_P D vwCl (WM k0 kv ko ks km kt kp kb cZ cD cI th mv io sz mk se pv pd op mw) U.heap ∧ va_K D vwCl (TY cZ cD cI) U ∧ va_D (fun _ => True) (WM k0 kv ko ks km kt kp kb cZ cD cI th mv io sz mk se pv pd op mw))) (wr_Qi (fun r => r = nI (if b = true then sz (2 * g + w) - cn (fun j => isW k (wy (io (12 * (2 * g + w) + j) || !pd w) (mv (12 * (2 * g + w) + j)) (pv w))) (sz (2 * g + w)) else cn (fun j => isW k (wy (io (12 * (2 * g + w) + j) || !pd w) (mv (12 * (2 * g + w) + j)) (pv w))) (sz (2 * g + w)))) (fun H => va_P D vwCl (WM k0 kv ko ks km kt kp kb cZ cD cI (thr false false false) mv io sz mk se pv pd op mw) H) (va_A (WM k0 kv ko ks km kt kp kb cZ cD cI th mv io sz mk se pv pd op mw) zz))  0 0 (va_A (WM k0 kv ko ks km kt kp kb cZ cD cI th mv io sz mk se pv pd op mw) zz) := by
  refine Met.ofW (cc := cX1_count) (maxL := 8) (ret := some .int) (by decide) rfl ?_
  intro p e s m args below meth c s₁ B hml hv
  obtain ⟨rfl, hsz_, hP, hK, hD0⟩ := hv
  have hx := B.exec
  have hb := B.bytes
  have hr := B.returns
  have hts := atoms_spec (ws := wsX1_count) B.pre
  have hown : s.vm.findClass RX1 = some m.cls := findClass_of_methodNamed B.named
  have hlocks := B.notSynchronized
  subst hsz_
  have hD := hD0.self (sz := s.heap.size)
  generalize hAe : va_A (WM k0 kv ko ks km kt kp kb cZ cD cI th mv io sz mk se pv pd op mw) s.heap.size = A at hD ⊢
  have hA : ∀ q : Nat, s.heap.size ≤ q → A q := fun q h => by rw [← hAe]; exact Or.inr h
  have hS : va_S A s.heap s.heap [] := va_S.rf
  have hl := lv_entry ([.ref k0, .int (nI g), .int (nI w), .int (nI k), .int (b2i b)]) (n := 8) (Nat.le_of_ble_eq_true rfl)
  rw [lg_entry_eq]
  generalize (lg_sl ([.ref k0, .int (nI g), .int (nI w), .int (nI k), .int (b2i b)]) ++ List.replicate (8 - (lg_sl ([.ref k0, .int (nI g), .int (nI w), .int (nI k), .int (b2i b)])).length) Slot.unset).toArray = ls at hl ⊢
  have hl : lv_has ls 8 [(0, .ref k0), (1, .int (nI g)), (2, .int (nI w)), (3, .int (nI k)), (4, .int (b2i b))] := hl
  have hinRX1 : ∀ w ∈ wsX10, w ∈ wsX1_count := by decide +kernel
  have hf_17 := hts (.fieldLink RX1 17 "HarbourBoardModel" "sizes" "[I") (by decide +kernel)
  have h1 := hsz (2 * g + w)
  refine lv_aload_n hx hb dX1_count_0 rfl (lv_at hl 0 rfl) ?_
  refine lv_iload_n hx hb dX1_count_1 rfl (lv_at hl 1 rfl) ?_
  refine lv_iconst (v := nI 5) hx hb dX1_count_2 (by decide) ?_
  refine rd_calli (va_runS (As := [.int (nI g), .int (nI 5)]) (rest := [.ref k0]) ⟨hx, hb, hml, hown, hts⟩ (c_X1_inside l g 5 (by omega) (by omega)) (va_cwS 2 hts gX1_count_X1_outside rfl rfl rfl (by decide +kernel) ⟨Nat.le_of_ble_eq_true rfl, Nat.le_of_ble_eq_true rfl⟩) ⟨fun a U g mk q => q, fun U hU hW => ⟨rfl, trivial⟩⟩ rfl rfl hl.1 rfl (lv_room (Nat.le_of_ble_eq_true rfl)) dX1_count_3 ⟨Nat.le_of_ble_eq_true rfl, Nat.le_of_ble_eq_true rfl⟩) (fun r_1 hr_1 => ?_)
  subst hr_1
  refine kb_ne (tgt := 25) hx hb dX1_count_6 (by decide) (fun h => absurd h (by decide)) (fun _ => ?_)
  refine lv_iload_n hx hb dX1_count_9 rfl (lv_at hl 2 rfl) ?_
  refine lv_iconst (v := nI 1) hx hb dX1_count_10 (by decide) ?_
  refine rd_calli (va_runS (As := [.int (nI w), .int (nI 1)]) (rest := [.ref k0]) ⟨hx, hb, hml, hown, hts⟩ (c_X1_inside l w 1 (by omega) (by omega)) (va_cwS 2 hts gX1_count_X1_outside rfl rfl rfl (by decide +kernel) ⟨Nat.le_of_ble_eq_true rfl, Nat.le_of_ble_eq_true rfl⟩) ⟨fun a U g mk q => q, fun U hU hW => ⟨rfl, trivial⟩⟩ rfl rfl hl.1 rfl (lv_room (Nat.le_of_ble_eq_true rfl)) dX1_count_11 ⟨Nat.le_of_ble_eq_true rfl, Nat.le_of_ble_eq_true rfl⟩) (fun r_2 hr_2 => ?_)
  subst hr_2
  refine kb_ne (tgt := 25) hx hb dX1_count_14 (by decide) (fun h => absurd h (by decide)) (fun _ => ?_)
  refine lv_iload_n hx hb dX1_count_17 rfl (lv_at hl 3 rfl) ?_
  refine lv_iconst (v := nI 5) hx hb dX1_count_18 (by decide) ?_
  refine rd_calli (va_runS (As := [.int (nI k), .int (nI 5)]) (rest := [.ref k0]) ⟨hx, hb, hml, hown, hts⟩ (c_X1_inside l k 5 (by omega) (by omega)) (va_cwS 2 hts gX1_count_X1_outside rfl rfl rfl (by decide +kernel) ⟨Nat.le_of_ble_eq_true rfl, Nat.le_of_ble_eq_true rfl⟩) ⟨fun a U g mk q => q, fun U hU hW => ⟨rfl, trivial⟩⟩ rfl rfl hl.1 rfl (lv_room (Nat.le_of_ble_eq_true rfl)) dX1_count_19 ⟨Nat.le_of_ble_eq_true rfl, Nat.le_of_ble_eq_true rfl⟩) (fun r_3 hr_3 => ?_)
  subst hr_3
  refine kb_eq (tgt := 29) hx hb dX1_count_22 (by decide) (fun _ => ?_) (fun h => absurd h (by decide))
  refine lv_iconst (v := nI 0) hx hb dX1_count_29 (by decide) ?_
  refine lv_iconst (v := nI 0) hx hb dX1_count_30 (by decide) ?_
  refine lv_iconst (v := nI 0) hx hb dX1_count_31 (by decide) ?_
  have hFc := va_free (wc := WM k0 kv ko ks km kt kp kb cZ cD cI th mv io sz mk se pv pd op mw) hD hS hA [0, 1, 2, 3, 4, 5, 6, 7] rfl
  refine wr_calli (va_runV (As := [.int (b2i false), .int (b2i false), .int (b2i false)]) (rest := []) ⟨hx, hb, hml, hown, hts⟩ (c_X1_throwing l D k0 kv ko ks km kt kp kb cZ cD cI th mv io sz mk se pv pd op mw hsz s.heap.size false false false ) (cwV 3 hts gX1_count_X1_throwing rfl rfl rfl (by decide +kernel) ⟨Nat.le_of_ble_eq_true rfl, Nat.le_of_ble_eq_true rfl⟩) ⟨fun a U g mk q => ⟨q.1, q.2.1, q.2.2.1, va_K.moved (u := U) (U := U.calling g mk a) (Vm.Alike.refl U.vm) q.2.2.2.1, q.2.2.2.2⟩, va_recv hK hP (ci := 2) (q0 := 0) rfl rfl, fun U hU hW => ⟨rfl, by rw [hU], by rw [hU]; exact hP, va_K.moved hW.alike hK, hD.weaken (fun _ _ _ _ => trivial)⟩⟩ rfl rfl hl.1 rfl (lv_room (Nat.le_of_ble_eq_true rfl)) dX1_count_32 ⟨Nat.le_of_ble_eq_true rfl, Nat.le_of_ble_eq_true rfl⟩) hS hFc (fun r_4 H locs hr_4 hP _ _ hS => ?_)
  subst hr_4
  refine kt_i (y := b2i false) rfl ?_
  have hD : va_D A (WM k0 kv ko ks km kt kp kb cZ cD cI (thr false false false) mv io sz mk se pv pd op mw) := va_D_same (ws := WM k0 kv ko ks km kt kp kb cZ cD cI th mv io sz mk se pv pd op mw) rfl hD
  have hP : va_P D vwCl (WM k0 kv ko ks km kt kp kb cZ cD cI (thr false false false) mv io sz mk se pv pd op mw) H := hP
  refine kb_eq (tgt := 40) hx hb dX1_count_35 (by decide) (fun _ => ?_) (fun h => absurd h (by decide))
  refine lv_iconst (v := nI 2) hx hb dX1_count_40 (by decide) ?_
  refine lv_iload_n hx hb dX1_count_41 rfl (lv_at hl 1 rfl) ?_
  refine kn_imul hx hb dX1_count_42 ?_
  refine lv_iload_n hx hb dX1_count_43 rfl (lv_at hl 2 rfl) ?_
  refine kn_iadd hx hb dX1_count_44 ?_
  refine lv_istore (lv' := [(5, .int (nI ((2 * g) + w))), (0, .ref k0), (1, .int (nI g)), (2, .int (nI w)), (3, .int (nI k)), (4, .int (b2i b))]) hx hb dX1_count_45 hl (by decide) rfl (fun ls hl => ?_)
  refine lv_iconst (v := nI 0) hx hb dX1_count_47 (by decide) ?_
  refine lv_istore (lv' := [(6, .int (nI 0)), (5, .int (nI ((2 * g) + w))), (0, .ref k0), (1, .int (nI g)), (2, .int (nI w)), (3, .int (nI k)), (4, .int (b2i b))]) hx hb dX1_count_48 hl (by decide) rfl (fun ls hl => ?_)
  refine lv_iconst (v := nI 0) hx hb dX1_count_50 (by decide) ?_
  refine lv_istore (lv' := [(7, .int (nI 0)), (6, .int (nI 0)), (5, .int (nI ((2 * g) + w))), (0, .ref k0), (1, .int (nI g)), (2, .int (nI w)), (3, .int (nI k)), (4, .int (b2i b))]) hx hb dX1_count_51 hl (by decide) rfl (fun ls hl => ?_)
  refine (?_ : ∀ (k_ i : Nat) (ls : Array Slot), i + k_ = sz (2 * g + w) → lv_has ls 8 [(0, .ref k0), (1, .int (nI g)), (2, .int (nI w)), (3, .int (nI k)), (4, .int (b2i b)), (5, .int (nI (2 * g + w))), (6, .int (nI (cn (fun j => isW k (wy (io (12 * (2 * g + w) + j) || !pd w) (mv (12 * (2 * g + w) + j)) (pv w))) i))), (7, .int (nI i))] → W p l e _ s m _ below meth c _ _ _ _ _ (F0 m 53 ls [])) (sz (2 * g + w)) 0 ls (by omega) (lv_sub hl [3, 4, 5, 6, 7, 2, 1, 0] rfl)
  clear hl
  intro k_
  induction k_ with
  | zero =>
    intro i ls hi hl
    have hcn := cn_le (fun j => isW k (wy (io (12 * (2 * g + w) + j) || !pd w) (mv (12 * (2 * g + w) + j)) (pv w))) i
    refine lv_iload hx hb dX1_count_53 (lv_at hl 7 rfl) ?_
    refine lv_aload_n hx hb dX1_count_55 rfl (lv_at hl 0 rfl) ?_
    refine va_get (D := D) (ci := 2) (v := .ref ks) (C := RX1) (T := TX1) (N := 10) hx hb hts hinRX1 hown hK hP 0 rfl rfl 3 (by decide) hf_17 (fun _ h9 => h9) rfl dX1_count_56 ?_
    refine lv_iload hx hb dX1_count_59 (lv_at hl 5 rfl) ?_
    refine kn_iald hx hb hK hP 3 2 rfl rfl (by omega) (by decide) dX1_count_61 ?_
    refine kn_icmp_ge (tgt := 102) hx hb (by omega) (by omega) dX1_count_62 (by decide) (fun c_x => ?_) (fun h => absurd h (by omega))
    refine lv_iload hx hb dX1_count_102 (lv_at hl 4 rfl) ?_
    refine kb_eq (tgt := 120) hx hb dX1_count_104 (by decide) (fun c_5 => ?_) (fun c_5 => ?_)
    · refine lv_iload hx hb dX1_count_120 (lv_at hl 6 rfl) ?_
      refine W.widen (k := 0) (n := 0) (Nat.le_of_ble_eq_true rfl) (Nat.le_of_ble_eq_true rfl) ?_
      exact W.iret (v := nI (cn (fun j => isW k (wy (io (12 * (2 * g + w) + j) || !pd w) (mv (12 * (2 * g + w) + j)) (pv w))) i)) hx hb hr (fun t9 ht9 hW9 => ⟨⟨_, rfl, congrArg nI (by rw [if_neg (by rw [c_5]; decide), show i = sz (2 * g + w) by omega]), by rw [ht9]; exact hP⟩, hS.F ht9⟩) hS.2.2 dX1_count_122
    · refine lv_aload_n hx hb dX1_count_107 rfl (lv_at hl 0 rfl) ?_
      refine va_get (D := D) (ci := 2) (v := .ref ks) (C := RX1) (T := TX1) (N := 10) hx hb hts hinRX1 hown hK hP 0 rfl rfl 3 (by decide) hf_17 (fun _ h9 => h9) rfl dX1_count_108 ?_
      refine lv_iload hx hb dX1_count_111 (lv_at hl 5 rfl) ?_
      refine kn_iald hx hb hK hP 3 2 rfl rfl (by omega) (by decide) dX1_count_113 ?_
      refine lv_iload hx hb dX1_count_114 (lv_at hl 6 rfl) ?_
      refine kn_isub hx hb (by omega) dX1_count_116 ?_
      refine lv_goto (tgt := 122) hx hb dX1_count_117 (by decide) ?_
      refine W.widen (k := 0) (n := 0) (Nat.le_of_ble_eq_true rfl) (Nat.le_of_ble_eq_true rfl) ?_
      exact W.iret (v := nI ((sz (2 * g + w)) - (cn (fun j => isW k (wy (io (12 * (2 * g + w) + j) || !pd w) (mv (12 * (2 * g + w) + j)) (pv w))) i))) hx hb hr (fun t9 ht9 hW9 => ⟨⟨_, rfl, congrArg nI (by rw [if_pos c_5, show i = sz (2 * g + w) by omega]), by rw [ht9]; exact hP⟩, hS.F ht9⟩) hS.2.2 dX1_count_122
  | succ k_ ih =>
    intro i ls hi hl
    have hcn := cn_le (fun j => isW k (wy (io (12 * (2 * g + w) + j) || !pd w) (mv (12 * (2 * g + w) + j)) (pv w))) i
    refine lv_iload hx hb dX1_count_53 (lv_at hl 7 rfl) ?_
    refine lv_aload_n hx hb dX1_count_55 rfl (lv_at hl 0 rfl) ?_
    refine va_get (D := D) (ci := 2) (v := .ref ks) (C := RX1) (T := TX1) (N := 10) hx hb hts hinRX1 hown hK hP 0 rfl rfl 3 (by decide) hf_17 (fun _ h9 => h9) rfl dX1_count_56 ?_
    refine lv_iload hx hb dX1_count_59 (lv_at hl 5 rfl) ?_
    refine kn_iald hx hb hK hP 3 2 rfl rfl (by omega) (by decide) dX1_count_61 ?_
    refine kn_icmp_ge (tgt := 102) hx hb (by omega) (by omega) dX1_count_62 (by decide) (fun h => absurd h (by omega)) (fun c_x => ?_)
    refine lv_iload_n hx hb dX1_count_65 rfl (lv_at hl 3 rfl) ?_
    refine lv_aload_n hx hb dX1_count_66 rfl (lv_at hl 0 rfl) ?_
    refine lv_bipush (v := nI 12) hx hb dX1_count_67 (by decide) ?_
    refine lv_iload hx hb dX1_count_69 (lv_at hl 5 rfl) ?_
    refine kn_imul hx hb dX1_count_71 ?_
    refine lv_iload hx hb dX1_count_72 (lv_at hl 7 rfl) ?_
    refine kn_iadd hx hb dX1_count_74 ?_
    refine lv_iload_n hx hb dX1_count_75 rfl (lv_at hl 2 rfl) ?_
    refine rd_calli (va_runV (As := [.int (nI ((12 * (2 * g + w)) + i)), .int (nI w)]) (rest := [.int (nI k)]) ⟨hx, hb, hml, hown, hts⟩ (c_X1_probeWay l D k0 kv ko ks km kt kp kb cZ cD cI (thr false false false) mv io sz mk se pv pd op mw hsz ((12 * (2 * g + w)) + i) w (by omega) (by omega)) (cwV 2 hts gX1_count_X1_probeWay rfl rfl rfl (by decide +kernel) ⟨Nat.le_of_ble_eq_true rfl, Nat.le_of_ble_eq_true rfl⟩) ⟨fun a U g mk q => ⟨q.1, q.2.1, va_K.moved (u := U) (U := U.calling g mk a) (Vm.Alike.refl U.vm) q.2.2⟩, va_recv hK hP (ci := 2) (q0 := 0) rfl rfl, fun U hU hW => ⟨rfl, by rw [hU]; exact hP, va_K.moved hW.alike hK⟩⟩ rfl rfl hl.1 rfl (lv_room (Nat.le_of_ble_eq_true rfl)) dX1_count_76 ⟨Nat.le_of_ble_eq_true rfl, Nat.le_of_ble_eq_true rfl⟩) (fun r_6 hr_6 => ?_)
    subst hr_6
    refine rd_calli (va_runS (As := [.int (nI k), .int (nI (wy (io ((12 * (2 * g + w)) + i) || !pd w) (mv ((12 * (2 * g + w)) + i)) (pv w)))]) (rest := []) ⟨hx, hb, hml, hown, hts⟩ (c_X1_is l k (wy (io ((12 * (2 * g + w)) + i) || !pd w) (mv ((12 * (2 * g + w)) + i)) (pv w)) (by omega) (wy_lt _ _ _)) (va_cwS 2 hts gX1_count_X1_is rfl rfl rfl (by decide +kernel) ⟨Nat.le_of_ble_eq_true rfl, Nat.le_of_ble_eq_true rfl⟩) ⟨fun a U g mk q => q, fun U hU hW => ⟨rfl, trivial⟩⟩ rfl rfl hl.1 rfl (lv_room (Nat.le_of_ble_eq_true rfl)) dX1_count_79 ⟨Nat.le_of_ble_eq_true rfl, Nat.le_of_ble_eq_true rfl⟩) (fun r_7 hr_7 => ?_)
    subst hr_7
    refine kb_eq (tgt := 92) hx hb dX1_count_82 (by decide) (fun c_8 => ?_) (fun c_8 => ?_)
    · refine lv_iload hx hb dX1_count_92 (lv_at hl 6 rfl) ?_
      refine lv_istore (lv' := [(6, .int (nI (cn (fun j => isW k (wy (io (12 * (2 * g + w) + j) || !pd w) (mv (12 * (2 * g + w) + j)) (pv w))) i))), (0, .ref k0), (1, .int (nI g)), (2, .int (nI w)), (3, .int (nI k)), (4, .int (b2i b)), (5, .int (nI (2 * g + w))), (7, .int (nI i))]) hx hb dX1_count_94 hl (by decide) rfl (fun ls hl => ?_)
      refine lv_iinc (v := nI (i + 1)) (lv' := [(7, .int (nI (i + 1))), (6, .int (nI (cn (fun j => isW k (wy (io (12 * (2 * g + w) + j) || !pd w) (mv (12 * (2 * g + w) + j)) (pv w))) i))), (0, .ref k0), (1, .int (nI g)), (2, .int (nI w)), (3, .int (nI k)), (4, .int (b2i b)), (5, .int (nI (2 * g + w)))]) hx hb dX1_count_96 hl (k := 7) rfl (nI_add i 1) (by decide) rfl (fun ls hl => ?_)
      refine lv_goto (tgt := 53) hx hb dX1_count_99 (by decide) ?_
      have e_1 : cn (fun j => isW k (wy (io (12 * (2 * g + w) + j) || !pd w) (mv (12 * (2 * g + w) + j)) (pv w))) (i + 1) = cn (fun j => isW k (wy (io (12 * (2 * g + w) + j) || !pd w) (mv (12 * (2 * g + w) + j)) (pv w))) i := cn_f (P := (fun j => isW k (wy (io (12 * (2 * g + w) + j) || !pd w) (mv (12 * (2 * g + w) + j)) (pv w)))) (i := i) c_8
      exact ih (i + 1) ls (by omega) (by rw [e_1]; exact lv_sub hl [2, 3, 4, 5, 6, 7, 1, 0] rfl)
    · refine lv_iload hx hb dX1_count_85 (lv_at hl 6 rfl) ?_
      refine lv_iconst (v := nI 1) hx hb dX1_count_87 (by decide) ?_
      refine kn_iadd hx hb dX1_count_88 ?_
      refine lv_goto (tgt := 94) hx hb dX1_count_89 (by decide) ?_
      refine lv_istore (lv' := [(6, .int (nI ((cn (fun j => isW k (wy (io (12 * (2 * g + w) + j) || !pd w) (mv (12 * (2 * g + w) + j)) (pv w))) i) + 1))), (0, .ref k0), (1, .int (nI g)), (2, .int (nI w)), (3, .int (nI k)), (4, .int (b2i b)), (5, .int (nI (2 * g + w))), (7, .int (nI i))]) hx hb dX1_count_94 hl (by decide) rfl (fun ls hl => ?_)
      refine lv_iinc (v := nI (i + 1)) (lv' := [(7, .int (nI (i + 1))), (6, .int (nI ((cn (fun j => isW k (wy (io (12 * (2 * g + w) + j) || !pd w) (mv (12 * (2 * g + w) + j)) (pv w))) i) + 1))), (0, .ref k0), (1, .int (nI g)), (2, .int (nI w)), (3, .int (nI k)), (4, .int (b2i b)), (5, .int (nI (2 * g + w)))]) hx hb dX1_count_96 hl (k := 7) rfl (nI_add i 1) (by decide) rfl (fun ls hl => ?_)
      refine lv_goto (tgt := 53) hx hb dX1_count_99 (by decide) ?_
      have e_1 : cn (fun j => isW k (wy (io (12 * (2 * g + w) + j) || !pd w) (mv (12 * (2 * g + w) + j)) (pv w))) (i + 1) = (cn (fun j => isW k (wy (io (12 * (2 * g + w) + j) || !pd w) (mv (12 * (2 * g + w) + j)) (pv w))) i) + 1 := cn_t (P := (fun j => isW k (wy (io (12 * (2 * g + w) + j) || !pd w) (mv (12 * (2 * g + w) + j)) (pv w)))) (i := i) c_8
      exact ih (i + 1) ls (by omega) (by rw [e_1]; exact lv_sub hl [2, 3, 4, 5, 6, 7, 1, 0] rfl)
set_option maxHeartbeats 4000000 in
set_option maxRecDepth 100000 in
theorem c_X1_holds (l : Launch) (D : va_G) (k0 kv ko ks km kt kp kb : Nat) (cZ cD cI : ClassId) (th : Nat) (mv : Nat → UInt64) (io : Nat → Bool) (sz : Nat → Nat) (mk : Nat → UInt64) (se : Nat → Bool) (pv : Nat → UInt64) (pd : Nat → Bool) (op : Bool) (mw : Int32) (hsz : ∀ j, sz j ≤ 12) (zz : Nat) (g : Nat) (h : Nat) (w : Nat) (k : Nat) (hg : g < 6) (hh : h < 6) (hw : w < 2) (hk : k < 6) : Met l yX1_holds wsX1_holds ({ frames := 3, cells := 0, slots := 0, locals := 64 }) (va_Pc [.ref k0, .int (nI g), .int (nI h), .int (nI w), .int (nI k)] (fun U => U.heap.size = zz ∧ va_P D vwCl (WM k0 kv ko ks km kt kp kb cZ cD cI th mv io sz mk se pv pd op mw) U.heap ∧ va_K D vwCl (TY cZ cD cI) U ∧ va_D (fun _ => True) (WM k0 kv ko ks km kt kp kb cZ cD cI th mv io sz mk se pv pd op mw))) (wr_Qi (fun r => r = b2i (isW k (wy (lo io sz (2 * g + w) || lo io sz (2 * h + w)) (lw mv sz (2 * g + w)) (lw mv sz (2 * h + w))))) (fun H => va_P D vwCl (WM k0 kv ko ks km kt kp kb cZ cD cI (thr false false false) mv io sz mk se pv pd op mw) H) (va_A (WM k0 kv ko ks km kt kp kb cZ cD cI th mv io sz mk se pv pd op mw) zz))  0 0 (va_A (WM k0 kv ko ks km kt kp kb cZ cD cI th mv io sz mk se pv pd op mw) zz) := by
  refine Met.ofW (cc := cX1_holds) (maxL := 5) (ret := some .boolean) (by decide) rfl ?_
  intro p e s m args below meth c s₁ B hml hv
  obtain ⟨rfl, hsz_, hP, hK, hD0⟩ := hv
  have hx := B.exec
  have hb := B.bytes
  have hr := B.returns
  have hts := atoms_spec (ws := wsX1_holds) B.pre
  have hown : s.vm.findClass RX1 = some m.cls := findClass_of_methodNamed B.named
  have hlocks := B.notSynchronized
  subst hsz_
  have hD := hD0.self (sz := s.heap.size)
  generalize hAe : va_A (WM k0 kv ko ks km kt kp kb cZ cD cI th mv io sz mk se pv pd op mw) s.heap.size = A at hD ⊢
  have hA : ∀ q : Nat, s.heap.size ≤ q → A q := fun q h => by rw [← hAe]; exact Or.inr h
  have hS : va_S A s.heap s.heap [] := va_S.rf
  have hl := lv_entry ([.ref k0, .int (nI g), .int (nI h), .int (nI w), .int (nI k)]) (n := 5) (Nat.le_of_ble_eq_true rfl)
  rw [lg_entry_eq]
  generalize (lg_sl ([.ref k0, .int (nI g), .int (nI h), .int (nI w), .int (nI k)]) ++ List.replicate (5 - (lg_sl ([.ref k0, .int (nI g), .int (nI h), .int (nI w), .int (nI k)])).length) Slot.unset).toArray = ls at hl ⊢
  have hl : lv_has ls 5 [(0, .ref k0), (1, .int (nI g)), (2, .int (nI h)), (3, .int (nI w)), (4, .int (nI k))] := hl
  refine lv_aload_n hx hb dX1_holds_0 rfl (lv_at hl 0 rfl) ?_
  refine lv_iload_n hx hb dX1_holds_1 rfl (lv_at hl 1 rfl) ?_
  refine lv_iconst (v := nI 5) hx hb dX1_holds_2 (by decide) ?_
  refine rd_calli (va_runS (As := [.int (nI g), .int (nI 5)]) (rest := [.ref k0]) ⟨hx, hb, hml, hown, hts⟩ (c_X1_inside l g 5 (by omega) (by omega)) (va_cwS 2 hts gX1_holds_X1_outside rfl rfl rfl (by decide +kernel) ⟨Nat.le_of_ble_eq_true rfl, Nat.le_of_ble_eq_true rfl⟩) ⟨fun a U g mk q => q, fun U hU hW => ⟨rfl, trivial⟩⟩ rfl rfl hl.1 rfl (lv_room (Nat.le_of_ble_eq_true rfl)) dX1_holds_3 ⟨Nat.le_of_ble_eq_true rfl, Nat.le_of_ble_eq_true rfl⟩) (fun r_1 hr_1 => ?_)
  subst hr_1
  refine kb_ne (tgt := 34) hx hb dX1_holds_6 (by decide) (fun h => absurd h (by decide)) (fun _ => ?_)
  refine lv_iload_n hx hb dX1_holds_9 rfl (lv_at hl 2 rfl) ?_
  refine lv_iconst (v := nI 5) hx hb dX1_holds_10 (by decide) ?_
  refine rd_calli (va_runS (As := [.int (nI h), .int (nI 5)]) (rest := [.ref k0]) ⟨hx, hb, hml, hown, hts⟩ (c_X1_inside l h 5 (by omega) (by omega)) (va_cwS 2 hts gX1_holds_X1_outside rfl rfl rfl (by decide +kernel) ⟨Nat.le_of_ble_eq_true rfl, Nat.le_of_ble_eq_true rfl⟩) ⟨fun a U g mk q => q, fun U hU hW => ⟨rfl, trivial⟩⟩ rfl rfl hl.1 rfl (lv_room (Nat.le_of_ble_eq_true rfl)) dX1_holds_11 ⟨Nat.le_of_ble_eq_true rfl, Nat.le_of_ble_eq_true rfl⟩) (fun r_2 hr_2 => ?_)
  subst hr_2
  refine kb_ne (tgt := 34) hx hb dX1_holds_14 (by decide) (fun h => absurd h (by decide)) (fun _ => ?_)
  refine lv_iload_n hx hb dX1_holds_17 rfl (lv_at hl 3 rfl) ?_
  refine lv_iconst (v := nI 1) hx hb dX1_holds_18 (by decide) ?_
  refine rd_calli (va_runS (As := [.int (nI w), .int (nI 1)]) (rest := [.ref k0]) ⟨hx, hb, hml, hown, hts⟩ (c_X1_inside l w 1 (by omega) (by omega)) (va_cwS 2 hts gX1_holds_X1_outside rfl rfl rfl (by decide +kernel) ⟨Nat.le_of_ble_eq_true rfl, Nat.le_of_ble_eq_true rfl⟩) ⟨fun a U g mk q => q, fun U hU hW => ⟨rfl, trivial⟩⟩ rfl rfl hl.1 rfl (lv_room (Nat.le_of_ble_eq_true rfl)) dX1_holds_19 ⟨Nat.le_of_ble_eq_true rfl, Nat.le_of_ble_eq_true rfl⟩) (fun r_3 hr_3 => ?_)
  subst hr_3
  refine kb_ne (tgt := 34) hx hb dX1_holds_22 (by decide) (fun h => absurd h (by decide)) (fun _ => ?_)
  refine lv_iload hx hb dX1_holds_25 (lv_at hl 4 rfl) ?_
  refine lv_iconst (v := nI 5) hx hb dX1_holds_27 (by decide) ?_
  refine rd_calli (va_runS (As := [.int (nI k), .int (nI 5)]) (rest := [.ref k0]) ⟨hx, hb, hml, hown, hts⟩ (c_X1_inside l k 5 (by omega) (by omega)) (va_cwS 2 hts gX1_holds_X1_outside rfl rfl rfl (by decide +kernel) ⟨Nat.le_of_ble_eq_true rfl, Nat.le_of_ble_eq_true rfl⟩) ⟨fun a U g mk q => q, fun U hU hW => ⟨rfl, trivial⟩⟩ rfl rfl hl.1 rfl (lv_room (Nat.le_of_ble_eq_true rfl)) dX1_holds_28 ⟨Nat.le_of_ble_eq_true rfl, Nat.le_of_ble_eq_true rfl⟩) (fun r_4 hr_4 => ?_)
  subst hr_4
  refine kb_eq (tgt := 38) hx hb dX1_holds_31 (by decide) (fun _ => ?_) (fun h => absurd h (by decide))
  refine lv_iconst (v := nI 0) hx hb dX1_holds_38 (by decide) ?_
  refine lv_iconst (v := nI 0) hx hb dX1_holds_39 (by decide) ?_
  refine lv_iconst (v := nI 0) hx hb dX1_holds_40 (by decide) ?_
  have hFc := va_free (wc := WM k0 kv ko ks km kt kp kb cZ cD cI th mv io sz mk se pv pd op mw) hD hS hA [0, 1, 2, 3, 4, 5, 6, 7] rfl
  refine wr_calli (va_runV (As := [.int (b2i false), .int (b2i false), .int (b2i false)]) (rest := []) ⟨hx, hb, hml, hown, hts⟩ (c_X1_throwing l D k0 kv ko ks km kt kp kb cZ cD cI th mv io sz mk se pv pd op mw hsz s.heap.size false false false ) (cwV 3 hts gX1_holds_X1_throwing rfl rfl rfl (by decide +kernel) ⟨Nat.le_of_ble_eq_true rfl, Nat.le_of_ble_eq_true rfl⟩) ⟨fun a U g mk q => ⟨q.1, q.2.1, q.2.2.1, va_K.moved (u := U) (U := U.calling g mk a) (Vm.Alike.refl U.vm) q.2.2.2.1, q.2.2.2.2⟩, va_recv hK hP (ci := 2) (q0 := 0) rfl rfl, fun U hU hW => ⟨rfl, by rw [hU], by rw [hU]; exact hP, va_K.moved hW.alike hK, hD.weaken (fun _ _ _ _ => trivial)⟩⟩ rfl rfl hl.1 rfl (lv_room (Nat.le_of_ble_eq_true rfl)) dX1_holds_41 ⟨Nat.le_of_ble_eq_true rfl, Nat.le_of_ble_eq_true rfl⟩) hS hFc (fun r_5 H locs hr_5 hP _ _ hS => ?_)
  subst hr_5
  refine kt_i (y := b2i false) rfl ?_
  have hD : va_D A (WM k0 kv ko ks km kt kp kb cZ cD cI (thr false false false) mv io sz mk se pv pd op mw) := va_D_same (ws := WM k0 kv ko ks km kt kp kb cZ cD cI th mv io sz mk se pv pd op mw) rfl hD
  have hP : va_P D vwCl (WM k0 kv ko ks km kt kp kb cZ cD cI (thr false false false) mv io sz mk se pv pd op mw) H := hP
  refine kb_eq (tgt := 49) hx hb dX1_holds_44 (by decide) (fun _ => ?_) (fun h => absurd h (by decide))
  refine lv_iload hx hb dX1_holds_49 (lv_at hl 4 rfl) ?_
  refine lv_aload_n hx hb dX1_holds_51 rfl (lv_at hl 0 rfl) ?_
  refine lv_iconst (v := nI 2) hx hb dX1_holds_52 (by decide) ?_
  refine lv_iload_n hx hb dX1_holds_53 rfl (lv_at hl 1 rfl) ?_
  refine kn_imul hx hb dX1_holds_54 ?_
  refine lv_iload_n hx hb dX1_holds_55 rfl (lv_at hl 3 rfl) ?_
  refine kn_iadd hx hb dX1_holds_56 ?_
  refine lv_iconst (v := nI 2) hx hb dX1_holds_57 (by decide) ?_
  refine lv_iload_n hx hb dX1_holds_58 rfl (lv_at hl 2 rfl) ?_
  refine kn_imul hx hb dX1_holds_59 ?_
  refine lv_iload_n hx hb dX1_holds_60 rfl (lv_at hl 3 rfl) ?_
  refine kn_iadd hx hb dX1_holds_61 ?_
  refine rd_calli (va_runV (As := [.int (nI ((2 * g) + w)), .int (nI ((2 * h) + w))]) (rest := [.int (nI k)]) ⟨hx, hb, hml, hown, hts⟩ (c_X1_latestWay l D k0 kv ko ks km kt kp kb cZ cD cI (thr false false false) mv io sz mk se pv pd op mw hsz ((2 * g) + w) ((2 * h) + w) (by omega) (by omega)) (cwV 2 hts gX1_holds_X1_latestWay rfl rfl rfl (by decide +kernel) ⟨Nat.le_of_ble_eq_true rfl, Nat.le_of_ble_eq_true rfl⟩) ⟨fun a U g mk q => ⟨q.1, q.2.1, va_K.moved (u := U) (U := U.calling g mk a) (Vm.Alike.refl U.vm) q.2.2⟩, va_recv hK hP (ci := 2) (q0 := 0) rfl rfl, fun U hU hW => ⟨rfl, by rw [hU]; exact hP, va_K.moved hW.alike hK⟩⟩ rfl rfl hl.1 rfl (lv_room (Nat.le_of_ble_eq_true rfl)) dX1_holds_62 ⟨Nat.le_of_ble_eq_true rfl, Nat.le_of_ble_eq_true rfl⟩) (fun r_6 hr_6 => ?_)
  subst hr_6
  refine rd_calli (va_runS (As := [.int (nI k), .int (nI (wy (lo io sz ((2 * g) + w) || lo io sz ((2 * h) + w)) (lw mv sz ((2 * g) + w)) (lw mv sz ((2 * h) + w))))]) (rest := []) ⟨hx, hb, hml, hown, hts⟩ (c_X1_is l k (wy (lo io sz ((2 * g) + w) || lo io sz ((2 * h) + w)) (lw mv sz ((2 * g) + w)) (lw mv sz ((2 * h) + w))) (by omega) (wy_lt _ _ _)) (va_cwS 2 hts gX1_holds_X1_is rfl rfl rfl (by decide +kernel) ⟨Nat.le_of_ble_eq_true rfl, Nat.le_of_ble_eq_true rfl⟩) ⟨fun a U g mk q => q, fun U hU hW => ⟨rfl, trivial⟩⟩ rfl rfl hl.1 rfl (lv_room (Nat.le_of_ble_eq_true rfl)) dX1_holds_65 ⟨Nat.le_of_ble_eq_true rfl, Nat.le_of_ble_eq_true rfl⟩) (fun r_7 hr_7 => ?_)
  subst hr_7
  refine W.widen (k := 0) (n := 0) (Nat.le_of_ble_eq_true rfl) (Nat.le_of_ble_eq_true rfl) ?_
  exact W.zret (v := b2i (isW k (wy (lo io sz ((2 * g) + w) || lo io sz ((2 * h) + w)) (lw mv sz ((2 * g) + w)) (lw mv sz ((2 * h) + w))))) hx hb hr (b2i_nar _) (fun t9 ht9 hW9 => ⟨⟨_, rfl, rfl, by rw [ht9]; exact hP⟩, hS.F ht9⟩) hS.2.2 dX1_holds_68
set_option maxHeartbeats 4000000 in
set_option maxRecDepth 100000 in
theorem c_X1_pick (l : Launch) (D : va_G) (k0 kv ko ks km kt kp kb : Nat) (cZ cD cI : ClassId) (th : Nat) (mv : Nat → UInt64) (io : Nat → Bool) (sz : Nat → Nat) (mk : Nat → UInt64) (se : Nat → Bool) (pv : Nat → UInt64) (pd : Nat → Bool) (op : Bool) (mw : Int32) (hsz : ∀ j, sz j ≤ 12) (zz : Nat) (g : Nat) (h : Nat) (w : Nat) (k : Nat) (hg : g < 6) (hh : h < 6) (hw : w < 2) (hk : k < 6) : Met l yX1_pick wsX1_pick ({ frames := 3, cells := 0, slots := 0, locals := 64 }) (va_Pc [.ref k0, .int (nI g), .int (nI h), .int (nI w), .int (nI k)] (fun U => U.heap.size = zz ∧ va_P D vwCl (WM k0 kv ko ks km kt kp kb cZ cD cI th mv io sz mk se pv pd op mw) U.heap ∧ va_K D vwCl (TY cZ cD cI) U ∧ va_D (fun _ => True) (WM k0 kv ko ks km kt kp kb cZ cD cI th mv io sz mk se pv pd op mw))) (wr_Qi (fun r => r = (if isW k (wy (lo io sz (2 * g + w) || lo io sz (2 * h + w)) (lw mv sz (2 * g + w)) (lw mv sz (2 * h + w))) = true then nI g else if isW k (wy (lo io sz (2 * h + w) || lo io sz (2 * g + w)) (lw mv sz (2 * h + w)) (lw mv sz (2 * g + w))) = true then nI h else (-1))) (fun H => va_P D vwCl (WM k0 kv ko ks km kt kp kb cZ cD cI (thr false false false) mv io sz mk se pv pd op mw) H) (va_A (WM k0 kv ko ks km kt kp kb cZ cD cI th mv io sz mk se pv pd op mw) zz))  0 0 (va_A (WM k0 kv ko ks km kt kp kb cZ cD cI th mv io sz mk se pv pd op mw) zz) := by
  refine Met.ofW (cc := cX1_pick) (maxL := 7) (ret := some .int) (by decide) rfl ?_
  intro p e s m args below meth c s₁ B hml hv
  obtain ⟨rfl, hsz_, hP, hK, hD0⟩ := hv
  have hx := B.exec
  have hb := B.bytes
  have hr := B.returns
  have hts := atoms_spec (ws := wsX1_pick) B.pre
  have hown : s.vm.findClass RX1 = some m.cls := findClass_of_methodNamed B.named
  have hlocks := B.notSynchronized
  subst hsz_
  have hD := hD0.self (sz := s.heap.size)
  generalize hAe : va_A (WM k0 kv ko ks km kt kp kb cZ cD cI th mv io sz mk se pv pd op mw) s.heap.size = A at hD ⊢
  have hA : ∀ q : Nat, s.heap.size ≤ q → A q := fun q h => by rw [← hAe]; exact Or.inr h
  have hS : va_S A s.heap s.heap [] := va_S.rf
  have hl := lv_entry ([.ref k0, .int (nI g), .int (nI h), .int (nI w), .int (nI k)]) (n := 7) (Nat.le_of_ble_eq_true rfl)
  rw [lg_entry_eq]
  generalize (lg_sl ([.ref k0, .int (nI g), .int (nI h), .int (nI w), .int (nI k)]) ++ List.replicate (7 - (lg_sl ([.ref k0, .int (nI g), .int (nI h), .int (nI w), .int (nI k)])).length) Slot.unset).toArray = ls at hl ⊢
  have hl : lv_has ls 7 [(0, .ref k0), (1, .int (nI g)), (2, .int (nI h)), (3, .int (nI w)), (4, .int (nI k))] := hl
  refine lv_aload_n hx hb dX1_pick_0 rfl (lv_at hl 0 rfl) ?_
  refine lv_iload_n hx hb dX1_pick_1 rfl (lv_at hl 1 rfl) ?_
  refine lv_iconst (v := nI 5) hx hb dX1_pick_2 (by decide) ?_
  refine rd_calli (va_runS (As := [.int (nI g), .int (nI 5)]) (rest := [.ref k0]) ⟨hx, hb, hml, hown, hts⟩ (c_X1_inside l g 5 (by omega) (by omega)) (va_cwS 2 hts gX1_pick_X1_outside rfl rfl rfl (by decide +kernel) ⟨Nat.le_of_ble_eq_true rfl, Nat.le_of_ble_eq_true rfl⟩) ⟨fun a U g mk q => q, fun U hU hW => ⟨rfl, trivial⟩⟩ rfl rfl hl.1 rfl (lv_room (Nat.le_of_ble_eq_true rfl)) dX1_pick_3 ⟨Nat.le_of_ble_eq_true rfl, Nat.le_of_ble_eq_true rfl⟩) (fun r_1 hr_1 => ?_)
  subst hr_1
  refine kb_ne (tgt := 34) hx hb dX1_pick_6 (by decide) (fun h => absurd h (by decide)) (fun _ => ?_)
  refine lv_iload_n hx hb dX1_pick_9 rfl (lv_at hl 2 rfl) ?_
  refine lv_iconst (v := nI 5) hx hb dX1_pick_10 (by decide) ?_
  refine rd_calli (va_runS (As := [.int (nI h), .int (nI 5)]) (rest := [.ref k0]) ⟨hx, hb, hml, hown, hts⟩ (c_X1_inside l h 5 (by omega) (by omega)) (va_cwS 2 hts gX1_pick_X1_outside rfl rfl rfl (by decide +kernel) ⟨Nat.le_of_ble_eq_true rfl, Nat.le_of_ble_eq_true rfl⟩) ⟨fun a U g mk q => q, fun U hU hW => ⟨rfl, trivial⟩⟩ rfl rfl hl.1 rfl (lv_room (Nat.le_of_ble_eq_true rfl)) dX1_pick_11 ⟨Nat.le_of_ble_eq_true rfl, Nat.le_of_ble_eq_true rfl⟩) (fun r_2 hr_2 => ?_)
  subst hr_2
  refine kb_ne (tgt := 34) hx hb dX1_pick_14 (by decide) (fun h => absurd h (by decide)) (fun _ => ?_)
  refine lv_iload_n hx hb dX1_pick_17 rfl (lv_at hl 3 rfl) ?_
  refine lv_iconst (v := nI 1) hx hb dX1_pick_18 (by decide) ?_
  refine rd_calli (va_runS (As := [.int (nI w), .int (nI 1)]) (rest := [.ref k0]) ⟨hx, hb, hml, hown, hts⟩ (c_X1_inside l w 1 (by omega) (by omega)) (va_cwS 2 hts gX1_pick_X1_outside rfl rfl rfl (by decide +kernel) ⟨Nat.le_of_ble_eq_true rfl, Nat.le_of_ble_eq_true rfl⟩) ⟨fun a U g mk q => q, fun U hU hW => ⟨rfl, trivial⟩⟩ rfl rfl hl.1 rfl (lv_room (Nat.le_of_ble_eq_true rfl)) dX1_pick_19 ⟨Nat.le_of_ble_eq_true rfl, Nat.le_of_ble_eq_true rfl⟩) (fun r_3 hr_3 => ?_)
  subst hr_3
  refine kb_ne (tgt := 34) hx hb dX1_pick_22 (by decide) (fun h => absurd h (by decide)) (fun _ => ?_)
  refine lv_iload hx hb dX1_pick_25 (lv_at hl 4 rfl) ?_
  refine lv_iconst (v := nI 5) hx hb dX1_pick_27 (by decide) ?_
  refine rd_calli (va_runS (As := [.int (nI k), .int (nI 5)]) (rest := [.ref k0]) ⟨hx, hb, hml, hown, hts⟩ (c_X1_inside l k 5 (by omega) (by omega)) (va_cwS 2 hts gX1_pick_X1_outside rfl rfl rfl (by decide +kernel) ⟨Nat.le_of_ble_eq_true rfl, Nat.le_of_ble_eq_true rfl⟩) ⟨fun a U g mk q => q, fun U hU hW => ⟨rfl, trivial⟩⟩ rfl rfl hl.1 rfl (lv_room (Nat.le_of_ble_eq_true rfl)) dX1_pick_28 ⟨Nat.le_of_ble_eq_true rfl, Nat.le_of_ble_eq_true rfl⟩) (fun r_4 hr_4 => ?_)
  subst hr_4
  refine kb_eq (tgt := 38) hx hb dX1_pick_31 (by decide) (fun _ => ?_) (fun h => absurd h (by decide))
  refine lv_iconst (v := nI 0) hx hb dX1_pick_38 (by decide) ?_
  refine lv_iconst (v := nI 0) hx hb dX1_pick_39 (by decide) ?_
  refine lv_iconst (v := nI 0) hx hb dX1_pick_40 (by decide) ?_
  have hFc := va_free (wc := WM k0 kv ko ks km kt kp kb cZ cD cI th mv io sz mk se pv pd op mw) hD hS hA [0, 1, 2, 3, 4, 5, 6, 7] rfl
  refine wr_calli (va_runV (As := [.int (b2i false), .int (b2i false), .int (b2i false)]) (rest := []) ⟨hx, hb, hml, hown, hts⟩ (c_X1_throwing l D k0 kv ko ks km kt kp kb cZ cD cI th mv io sz mk se pv pd op mw hsz s.heap.size false false false ) (cwV 3 hts gX1_pick_X1_throwing rfl rfl rfl (by decide +kernel) ⟨Nat.le_of_ble_eq_true rfl, Nat.le_of_ble_eq_true rfl⟩) ⟨fun a U g mk q => ⟨q.1, q.2.1, q.2.2.1, va_K.moved (u := U) (U := U.calling g mk a) (Vm.Alike.refl U.vm) q.2.2.2.1, q.2.2.2.2⟩, va_recv hK hP (ci := 2) (q0 := 0) rfl rfl, fun U hU hW => ⟨rfl, by rw [hU], by rw [hU]; exact hP, va_K.moved hW.alike hK, hD.weaken (fun _ _ _ _ => trivial)⟩⟩ rfl rfl hl.1 rfl (lv_room (Nat.le_of_ble_eq_true rfl)) dX1_pick_41 ⟨Nat.le_of_ble_eq_true rfl, Nat.le_of_ble_eq_true rfl⟩) hS hFc (fun r_5 H locs hr_5 hP _ _ hS => ?_)
  subst hr_5
  refine kt_i (y := b2i false) rfl ?_
  have hD : va_D A (WM k0 kv ko ks km kt kp kb cZ cD cI (thr false false false) mv io sz mk se pv pd op mw) := va_D_same (ws := WM k0 kv ko ks km kt kp kb cZ cD cI th mv io sz mk se pv pd op mw) rfl hD
  have hP : va_P D vwCl (WM k0 kv ko ks km kt kp kb cZ cD cI (thr false false false) mv io sz mk se pv pd op mw) H := hP
  refine kb_eq (tgt := 49) hx hb dX1_pick_44 (by decide) (fun _ => ?_) (fun h => absurd h (by decide))
  refine lv_iload hx hb dX1_pick_49 (lv_at hl 4 rfl) ?_
  refine lv_aload_n hx hb dX1_pick_51 rfl (lv_at hl 0 rfl) ?_
  refine lv_iconst (v := nI 2) hx hb dX1_pick_52 (by decide) ?_
  refine lv_iload_n hx hb dX1_pick_53 rfl (lv_at hl 1 rfl) ?_
  refine kn_imul hx hb dX1_pick_54 ?_
  refine lv_iload_n hx hb dX1_pick_55 rfl (lv_at hl 3 rfl) ?_
  refine kn_iadd hx hb dX1_pick_56 ?_
  refine lv_iconst (v := nI 2) hx hb dX1_pick_57 (by decide) ?_
  refine lv_iload_n hx hb dX1_pick_58 rfl (lv_at hl 2 rfl) ?_
  refine kn_imul hx hb dX1_pick_59 ?_
  refine lv_iload_n hx hb dX1_pick_60 rfl (lv_at hl 3 rfl) ?_
  refine kn_iadd hx hb dX1_pick_61 ?_
  refine rd_calli (va_runV (As := [.int (nI ((2 * g) + w)), .int (nI ((2 * h) + w))]) (rest := [.int (nI k)]) ⟨hx, hb, hml, hown, hts⟩ (c_X1_latestWay l D k0 kv ko ks km kt kp kb cZ cD cI (thr false false false) mv io sz mk se pv pd op mw hsz ((2 * g) + w) ((2 * h) + w) (by omega) (by omega)) (cwV 2 hts gX1_pick_X1_latestWay rfl rfl rfl (by decide +kernel) ⟨Nat.le_of_ble_eq_true rfl, Nat.le_of_ble_eq_true rfl⟩) ⟨fun a U g mk q => ⟨q.1, q.2.1, va_K.moved (u := U) (U := U.calling g mk a) (Vm.Alike.refl U.vm) q.2.2⟩, va_recv hK hP (ci := 2) (q0 := 0) rfl rfl, fun U hU hW => ⟨rfl, by rw [hU]; exact hP, va_K.moved hW.alike hK⟩⟩ rfl rfl hl.1 rfl (lv_room (Nat.le_of_ble_eq_true rfl)) dX1_pick_62 ⟨Nat.le_of_ble_eq_true rfl, Nat.le_of_ble_eq_true rfl⟩) (fun r_6 hr_6 => ?_)
  subst hr_6
  refine rd_calli (va_runS (As := [.int (nI k), .int (nI (wy (lo io sz ((2 * g) + w) || lo io sz ((2 * h) + w)) (lw mv sz ((2 * g) + w)) (lw mv sz ((2 * h) + w))))]) (rest := []) ⟨hx, hb, hml, hown, hts⟩ (c_X1_is l k (wy (lo io sz ((2 * g) + w) || lo io sz ((2 * h) + w)) (lw mv sz ((2 * g) + w)) (lw mv sz ((2 * h) + w))) (by omega) (wy_lt _ _ _)) (va_cwS 2 hts gX1_pick_X1_is rfl rfl rfl (by decide +kernel) ⟨Nat.le_of_ble_eq_true rfl, Nat.le_of_ble_eq_true rfl⟩) ⟨fun a U g mk q => q, fun U hU hW => ⟨rfl, trivial⟩⟩ rfl rfl hl.1 rfl (lv_room (Nat.le_of_ble_eq_true rfl)) dX1_pick_65 ⟨Nat.le_of_ble_eq_true rfl, Nat.le_of_ble_eq_true rfl⟩) (fun r_7 hr_7 => ?_)
  subst hr_7
  refine lv_istore (lv' := [(5, .int (b2i (isW k (wy (lo io sz ((2 * g) + w) || lo io sz ((2 * h) + w)) (lw mv sz ((2 * g) + w)) (lw mv sz ((2 * h) + w)))))), (0, .ref k0), (1, .int (nI g)), (2, .int (nI h)), (3, .int (nI w)), (4, .int (nI k))]) hx hb dX1_pick_68 hl (by decide) rfl (fun ls hl => ?_)
  refine lv_iload hx hb dX1_pick_70 (lv_at hl 5 rfl) ?_
  refine lv_aload_n hx hb dX1_pick_72 rfl (lv_at hl 1 rfl) ?_
  refine lv_iconst (v := nI 2) hx hb dX1_pick_73 (by decide) ?_
  refine lv_iload_n hx hb dX1_pick_74 rfl (lv_at hl 3 rfl) ?_
  refine kn_imul hx hb dX1_pick_75 ?_
  refine lv_iload_n hx hb dX1_pick_76 rfl (lv_at hl 4 rfl) ?_
  refine kn_iadd hx hb dX1_pick_77 ?_
  refine lv_iconst (v := nI 2) hx hb dX1_pick_78 (by decide) ?_
  refine lv_iload_n hx hb dX1_pick_79 rfl (lv_at hl 2 rfl) ?_
  refine kn_imul hx hb dX1_pick_80 ?_
  refine lv_iload_n hx hb dX1_pick_81 rfl (lv_at hl 4 rfl) ?_
  refine kn_iadd hx hb dX1_pick_82 ?_
  refine rd_calli (va_runV (As := [.int (nI ((2 * h) + w)), .int (nI ((2 * g) + w))]) (rest := [.int (nI k)]) ⟨hx, hb, hml, hown, hts⟩ (c_X1_latestWay l D k0 kv ko ks km kt kp kb cZ cD cI (thr false false false) mv io sz mk se pv pd op mw hsz ((2 * h) + w) ((2 * g) + w) (by omega) (by omega)) (cwV 2 hts gX1_pick_X1_latestWay rfl rfl rfl (by decide +kernel) ⟨Nat.le_of_ble_eq_true rfl, Nat.le_of_ble_eq_true rfl⟩) ⟨fun a U g mk q => ⟨q.1, q.2.1, va_K.moved (u := U) (U := U.calling g mk a) (Vm.Alike.refl U.vm) q.2.2⟩, va_recv hK hP (ci := 2) (q0 := 0) rfl rfl, fun U hU hW => ⟨rfl, by rw [hU]; exact hP, va_K.moved hW.alike hK⟩⟩ rfl rfl hl.1 rfl (lv_room (Nat.le_of_ble_eq_true rfl)) dX1_pick_83 ⟨Nat.le_of_ble_eq_true rfl, Nat.le_of_ble_eq_true rfl⟩) (fun r_8 hr_8 => ?_)
  subst hr_8
  refine rd_calli (va_runS (As := [.int (nI k), .int (nI (wy (lo io sz ((2 * h) + w) || lo io sz ((2 * g) + w)) (lw mv sz ((2 * h) + w)) (lw mv sz ((2 * g) + w))))]) (rest := []) ⟨hx, hb, hml, hown, hts⟩ (c_X1_is l k (wy (lo io sz ((2 * h) + w) || lo io sz ((2 * g) + w)) (lw mv sz ((2 * h) + w)) (lw mv sz ((2 * g) + w))) (by omega) (wy_lt _ _ _)) (va_cwS 2 hts gX1_pick_X1_is rfl rfl rfl (by decide +kernel) ⟨Nat.le_of_ble_eq_true rfl, Nat.le_of_ble_eq_true rfl⟩) ⟨fun a U g mk q => q, fun U hU hW => ⟨rfl, trivial⟩⟩ rfl rfl hl.1 rfl (lv_room (Nat.le_of_ble_eq_true rfl)) dX1_pick_86 ⟨Nat.le_of_ble_eq_true rfl, Nat.le_of_ble_eq_true rfl⟩) (fun r_9 hr_9 => ?_)
  subst hr_9
  refine lv_istore (lv' := [(6, .int (b2i (isW k (wy (lo io sz ((2 * h) + w) || lo io sz ((2 * g) + w)) (lw mv sz ((2 * h) + w)) (lw mv sz ((2 * g) + w)))))), (5, .int (b2i (isW k (wy (lo io sz ((2 * g) + w) || lo io sz ((2 * h) + w)) (lw mv sz ((2 * g) + w)) (lw mv sz ((2 * h) + w)))))), (0, .ref k0), (1, .int (nI g)), (2, .int (nI h)), (3, .int (nI w)), (4, .int (nI k))]) hx hb dX1_pick_89 hl (by decide) rfl (fun ls hl => ?_)
  refine lv_iload hx hb dX1_pick_91 (lv_at hl 1 rfl) ?_
  refine kb_eq (tgt := 100) hx hb dX1_pick_93 (by decide) (fun c_10 => ?_) (fun c_10 => ?_)
  · refine lv_iload hx hb dX1_pick_100 (lv_at hl 0 rfl) ?_
    refine kb_eq (tgt := 109) hx hb dX1_pick_102 (by decide) (fun c_11 => ?_) (fun c_11 => ?_)
    · refine lv_iconst (v := (-1)) hx hb dX1_pick_109 (by decide) ?_
      refine W.widen (k := 0) (n := 0) (Nat.le_of_ble_eq_true rfl) (Nat.le_of_ble_eq_true rfl) ?_
      exact W.iret (v := (-1)) hx hb hr (fun t9 ht9 hW9 => ⟨⟨_, rfl, by first | rfl | (simp [c_10, c_11]; done) | (simp only [Nat.add_zero] at c_10 c_11; simp [c_10, c_11]; done), by rw [ht9]; exact hP⟩, hS.F ht9⟩) hS.2.2 dX1_pick_110
    · refine lv_iload_n hx hb dX1_pick_105 rfl (lv_at hl 4 rfl) ?_
      refine lv_goto (tgt := 110) hx hb dX1_pick_106 (by decide) ?_
      refine W.widen (k := 0) (n := 0) (Nat.le_of_ble_eq_true rfl) (Nat.le_of_ble_eq_true rfl) ?_
      exact W.iret (v := nI h) hx hb hr (fun t9 ht9 hW9 => ⟨⟨_, rfl, by first | rfl | (simp [c_10, c_11]; done) | (simp only [Nat.add_zero] at c_10 c_11; simp [c_10, c_11]; done), by rw [ht9]; exact hP⟩, hS.F ht9⟩) hS.2.2 dX1_pick_110
  · refine lv_iload_n hx hb dX1_pick_96 rfl (lv_at hl 3 rfl) ?_
    refine lv_goto (tgt := 110) hx hb dX1_pick_97 (by decide) ?_
    refine W.widen (k := 0) (n := 0) (Nat.le_of_ble_eq_true rfl) (Nat.le_of_ble_eq_true rfl) ?_
    exact W.iret (v := nI g) hx hb hr (fun t9 ht9 hW9 => ⟨⟨_, rfl, by first | rfl | (simp [c_10]; done) | (simp only [Nat.add_zero] at c_10; simp [c_10]; done), by rw [ht9]; exact hP⟩, hS.F ht9⟩) hS.2.2 dX1_pick_110
set_option maxHeartbeats 4000000 in
set_option maxRecDepth 100000 in
theorem c_X1_stand (l : Launch) (D : va_G) (k0 kv ko ks km kt kp kb : Nat) (cZ cD cI : ClassId) (th : Nat) (mv : Nat → UInt64) (io : Nat → Bool) (sz : Nat → Nat) (mk : Nat → UInt64) (se : Nat → Bool) (pv : Nat → UInt64) (pd : Nat → Bool) (op : Bool) (mw : Int32) (hsz : ∀ j, sz j ≤ 12) (zz : Nat) (g : Nat) (hg : g < 6) : Met l yX1_stand wsX1_stand ({ frames := 4, cells := 0, slots := 0, locals := 87 }) (va_Pc [.ref k0, .int (nI g)] (fun U => U.heap.size = zz ∧ va_P D vwCl (WM k0 kv ko ks km kt kp kb cZ cD cI th mv io sz mk se pv pd op mw) U.heap ∧ va_K D vwCl (TY cZ cD cI) U ∧ va_D (fun _ => True) (WM k0 kv ko ks km kt kp kb cZ cD cI th mv io sz mk se pv pd op mw))) (wr_Qi (fun r => r = nI (slM io mv sz mk se g + swM io mv sz mk se g)) (fun H => va_P D vwCl (WM k0 kv ko ks km kt kp kb cZ cD cI (thr false false false) mv io sz mk se pv pd op mw) H) (va_A (WM k0 kv ko ks km kt kp kb cZ cD cI th mv io sz mk se pv pd op mw) zz))  0 0 (va_A (WM k0 kv ko ks km kt kp kb cZ cD cI th mv io sz mk se pv pd op mw) zz) := by
  refine Met.ofW (cc := cX1_stand) (maxL := 4) (ret := some .int) (by decide) rfl ?_
  intro p e s m args below meth c s₁ B hml hv
  obtain ⟨rfl, hsz_, hP, hK, hD0⟩ := hv
  have hx := B.exec
  have hb := B.bytes
  have hr := B.returns
  have hts := atoms_spec (ws := wsX1_stand) B.pre
  have hown : s.vm.findClass RX1 = some m.cls := findClass_of_methodNamed B.named
  have hlocks := B.notSynchronized
  subst hsz_
  have hD := hD0.self (sz := s.heap.size)
  generalize hAe : va_A (WM k0 kv ko ks km kt kp kb cZ cD cI th mv io sz mk se pv pd op mw) s.heap.size = A at hD ⊢
  have hA : ∀ q : Nat, s.heap.size ≤ q → A q := fun q h => by rw [← hAe]; exact Or.inr h
  have hS : va_S A s.heap s.heap [] := va_S.rf
  have hl := lv_entry ([.ref k0, .int (nI g)]) (n := 4) (Nat.le_of_ble_eq_true rfl)
  rw [lg_entry_eq]
  generalize (lg_sl ([.ref k0, .int (nI g)]) ++ List.replicate (4 - (lg_sl ([.ref k0, .int (nI g)])).length) Slot.unset).toArray = ls at hl ⊢
  have hl : lv_has ls 4 [(0, .ref k0), (1, .int (nI g))] := hl
  have hinRX1 : ∀ w ∈ wsX10, w ∈ wsX1_stand := by decide +kernel
  have hf_24 := hts (.fieldLink RX1 24 "HarbourBoardModel" "isSet" "[Z") (by decide +kernel)
  refine lv_aload_n hx hb dX1_stand_0 rfl (lv_at hl 0 rfl) ?_
  refine lv_iload_n hx hb dX1_stand_1 rfl (lv_at hl 1 rfl) ?_
  refine lv_iconst (v := nI 5) hx hb dX1_stand_2 (by decide) ?_
  refine rd_calli (va_runS (As := [.int (nI g), .int (nI 5)]) (rest := [.ref k0]) ⟨hx, hb, hml, hown, hts⟩ (c_X1_inside l g 5 (by omega) (by omega)) (va_cwS 2 hts gX1_stand_X1_outside rfl rfl rfl (by decide +kernel) ⟨Nat.le_of_ble_eq_true rfl, Nat.le_of_ble_eq_true rfl⟩) ⟨fun a U g mk q => q, fun U hU hW => ⟨rfl, trivial⟩⟩ rfl rfl hl.1 rfl (lv_room (Nat.le_of_ble_eq_true rfl)) dX1_stand_3 ⟨Nat.le_of_ble_eq_true rfl, Nat.le_of_ble_eq_true rfl⟩) (fun r_1 hr_1 => ?_)
  subst hr_1
  refine lv_iconst (v := nI 0) hx hb dX1_stand_6 (by decide) ?_
  refine lv_iconst (v := nI 0) hx hb dX1_stand_7 (by decide) ?_
  have hFc := va_free (wc := WM k0 kv ko ks km kt kp kb cZ cD cI th mv io sz mk se pv pd op mw) hD hS hA [0, 1, 2, 3, 4, 5, 6, 7] rfl
  refine wr_calli (va_runV (As := [.int (b2i false), .int (b2i false), .int (b2i false)]) (rest := []) ⟨hx, hb, hml, hown, hts⟩ (c_X1_throwing l D k0 kv ko ks km kt kp kb cZ cD cI th mv io sz mk se pv pd op mw hsz s.heap.size false false false ) (cwV 3 hts gX1_stand_X1_throwing rfl rfl rfl (by decide +kernel) ⟨Nat.le_of_ble_eq_true rfl, Nat.le_of_ble_eq_true rfl⟩) ⟨fun a U g mk q => ⟨q.1, q.2.1, q.2.2.1, va_K.moved (u := U) (U := U.calling g mk a) (Vm.Alike.refl U.vm) q.2.2.2.1, q.2.2.2.2⟩, va_recv hK hP (ci := 2) (q0 := 0) rfl rfl, fun U hU hW => ⟨rfl, by rw [hU], by rw [hU]; exact hP, va_K.moved hW.alike hK, hD.weaken (fun _ _ _ _ => trivial)⟩⟩ rfl rfl hl.1 rfl (lv_room (Nat.le_of_ble_eq_true rfl)) dX1_stand_8 ⟨Nat.le_of_ble_eq_true rfl, Nat.le_of_ble_eq_true rfl⟩) hS hFc (fun r_2 H locs hr_2 hP _ _ hS => ?_)
  subst hr_2
  refine kt_i (y := b2i false) rfl ?_
  have hD : va_D A (WM k0 kv ko ks km kt kp kb cZ cD cI (thr false false false) mv io sz mk se pv pd op mw) := va_D_same (ws := WM k0 kv ko ks km kt kp kb cZ cD cI th mv io sz mk se pv pd op mw) rfl hD
  have hP : va_P D vwCl (WM k0 kv ko ks km kt kp kb cZ cD cI (thr false false false) mv io sz mk se pv pd op mw) H := hP
  refine kb_eq (tgt := 16) hx hb dX1_stand_11 (by decide) (fun _ => ?_) (fun h => absurd h (by decide))
  refine lv_aload_n hx hb dX1_stand_16 rfl (lv_at hl 0 rfl) ?_
  refine lv_iconst (v := nI 2) hx hb dX1_stand_17 (by decide) ?_
  refine lv_iload_n hx hb dX1_stand_18 rfl (lv_at hl 1 rfl) ?_
  refine kn_imul hx hb dX1_stand_19 ?_
  refine lv_iconst (v := nI 1) hx hb dX1_stand_20 (by decide) ?_
  refine kn_iadd hx hb dX1_stand_21 ?_
  refine lv_iconst (v := nI 3) hx hb dX1_stand_22 (by decide) ?_
  refine lv_iload_n hx hb dX1_stand_23 rfl (lv_at hl 1 rfl) ?_
  refine kn_imul hx hb dX1_stand_24 ?_
  refine lv_iconst (v := nI 2) hx hb dX1_stand_25 (by decide) ?_
  refine kn_iadd hx hb dX1_stand_26 ?_
  refine rd_calli (va_runV (As := [.int (nI ((2 * g) + 1)), .int (nI ((3 * g) + 2))]) (rest := []) ⟨hx, hb, hml, hown, hts⟩ (c_X1_markWay l D k0 kv ko ks km kt kp kb cZ cD cI (thr false false false) mv io sz mk se pv pd op mw hsz ((2 * g) + 1) ((3 * g) + 2) (by omega) (by omega)) (cwV 2 hts gX1_stand_X1_markWay rfl rfl rfl (by decide +kernel) ⟨Nat.le_of_ble_eq_true rfl, Nat.le_of_ble_eq_true rfl⟩) ⟨fun a U g mk q => ⟨q.1, q.2.1, va_K.moved (u := U) (U := U.calling g mk a) (Vm.Alike.refl U.vm) q.2.2⟩, va_recv hK hP (ci := 2) (q0 := 0) rfl rfl, fun U hU hW => ⟨rfl, by rw [hU]; exact hP, va_K.moved hW.alike hK⟩⟩ rfl rfl hl.1 rfl (lv_room (Nat.le_of_ble_eq_true rfl)) dX1_stand_27 ⟨Nat.le_of_ble_eq_true rfl, Nat.le_of_ble_eq_true rfl⟩) (fun r_3 hr_3 => ?_)
  subst hr_3
  refine lv_istore_n (lv' := [(2, .int (nI (wy (lo io sz ((2 * g) + 1) || !se ((3 * g) + 2)) (lw mv sz ((2 * g) + 1)) (mk ((3 * g) + 2))))), (0, .ref k0), (1, .int (nI g))]) hx hb dX1_stand_30 rfl hl (by decide) rfl (fun ls hl => ?_)
  refine lv_iload_n hx hb dX1_stand_31 rfl (lv_at hl 0 rfl) ?_
  refine lv_iconst (v := nI 1) hx hb dX1_stand_32 (by decide) ?_
  refine kn_icmp_ne (tgt := 41) hx hb (Nat.lt_trans (wy_lt _ _ _) (by decide)) (by decide) dX1_stand_33 (by decide) (fun c_4 => ?_) (fun c_4 => ?_)
  · refine lv_iload_n hx hb dX1_stand_41 rfl (lv_at hl 0 rfl) ?_
    refine lv_bipush (v := nI 8) hx hb dX1_stand_42 (by decide) ?_
    refine kn_icmp_ge (tgt := 52) hx hb (Nat.lt_trans (wy_lt _ _ _) (by decide)) (by decide) dX1_stand_44 (by decide) (fun c_5 => ?_) (fun c_5 => ?_)
    · refine lv_aload_n hx hb dX1_stand_52 rfl (lv_at hl 1 rfl) ?_
      refine va_get (D := D) (ci := 2) (v := .ref kt) (C := RX1) (T := TX1) (N := 10) hx hb hts hinRX1 hown hK hP 0 rfl rfl 5 (by decide) hf_24 (fun _ h9 => h9) rfl dX1_stand_53 ?_
      refine lv_iconst (v := nI 3) hx hb dX1_stand_56 (by decide) ?_
      refine lv_iload_n hx hb dX1_stand_57 rfl (lv_at hl 2 rfl) ?_
      refine kn_imul hx hb dX1_stand_58 ?_
      refine lv_iconst (v := nI 2) hx hb dX1_stand_59 (by decide) ?_
      refine kn_iadd hx hb dX1_stand_60 ?_
      refine kn_zald hx hb hK hP 5 0 rfl rfl (by omega) (by decide) dX1_stand_61 ?_
      refine kb_eq (tgt := 70) hx hb dX1_stand_62 (by decide) (fun c_6 => ?_) (fun c_6 => ?_)
      · refine lv_iconst (v := nI 0) hx hb dX1_stand_70 (by decide) ?_
        refine lv_istore_n (lv' := [(3, .int (nI 0)), (2, .int (nI (wy (lo io sz ((2 * g) + 1) || !se ((3 * g) + 2)) (lw mv sz ((2 * g) + 1)) (mk ((3 * g) + 2))))), (0, .ref k0), (1, .int (nI g))]) hx hb dX1_stand_71 rfl hl (by decide) rfl (fun ls hl => ?_)
        refine lv_aload_n hx hb dX1_stand_72 rfl (lv_at hl 2 rfl) ?_
        refine lv_iload_n hx hb dX1_stand_73 rfl (lv_at hl 3 rfl) ?_
        refine rd_calli (va_runV (As := [.int (nI g)]) (rest := []) ⟨hx, hb, hml, hown, hts⟩ (c_X1_levelStand l D k0 kv ko ks km kt kp kb cZ cD cI (thr false false false) mv io sz mk se pv pd op mw hsz g (by omega)) (cwV 1 hts gX1_stand_X1_levelStand rfl rfl rfl (by decide +kernel) ⟨Nat.le_of_ble_eq_true rfl, Nat.le_of_ble_eq_true rfl⟩) ⟨fun a U g mk q => ⟨q.1, q.2.1, va_K.moved (u := U) (U := U.calling g mk a) (Vm.Alike.refl U.vm) q.2.2⟩, va_recv hK hP (ci := 2) (q0 := 0) rfl rfl, fun U hU hW => ⟨rfl, by rw [hU]; exact hP, va_K.moved hW.alike hK⟩⟩ rfl rfl hl.1 rfl (lv_room (Nat.le_of_ble_eq_true rfl)) dX1_stand_74 ⟨Nat.le_of_ble_eq_true rfl, Nat.le_of_ble_eq_true rfl⟩) (fun r_7 hr_7 => ?_)
        subst hr_7
        refine lv_iload_n hx hb dX1_stand_77 rfl (lv_at hl 0 rfl) ?_
        refine kn_iadd hx hb dX1_stand_78 ?_
        refine W.widen (k := 0) (n := 0) (Nat.le_of_ble_eq_true rfl) (Nat.le_of_ble_eq_true rfl) ?_
        exact W.iret (v := nI ((slM io mv sz mk se g) + 0)) hx hb hr (fun t9 ht9 hW9 => ⟨⟨_, rfl, congrArg nI (congrArg (fun z => slM io mv sz mk se g + z) (show 0 = swM io mv sz mk se g from by unfold swM; rw [if_neg c_4, if_neg (Nat.not_lt.mpr c_5), if_neg (by rw [c_6]; decide)])), by rw [ht9]; exact hP⟩, hS.F ht9⟩) hS.2.2 dX1_stand_79
      · refine lv_bipush (v := nI 30) hx hb dX1_stand_65 (by decide) ?_
        refine lv_goto (tgt := 71) hx hb dX1_stand_67 (by decide) ?_
        refine lv_istore_n (lv' := [(3, .int (nI 30)), (2, .int (nI (wy (lo io sz ((2 * g) + 1) || !se ((3 * g) + 2)) (lw mv sz ((2 * g) + 1)) (mk ((3 * g) + 2))))), (0, .ref k0), (1, .int (nI g))]) hx hb dX1_stand_71 rfl hl (by decide) rfl (fun ls hl => ?_)
        refine lv_aload_n hx hb dX1_stand_72 rfl (lv_at hl 2 rfl) ?_
        refine lv_iload_n hx hb dX1_stand_73 rfl (lv_at hl 3 rfl) ?_
        refine rd_calli (va_runV (As := [.int (nI g)]) (rest := []) ⟨hx, hb, hml, hown, hts⟩ (c_X1_levelStand l D k0 kv ko ks km kt kp kb cZ cD cI (thr false false false) mv io sz mk se pv pd op mw hsz g (by omega)) (cwV 1 hts gX1_stand_X1_levelStand rfl rfl rfl (by decide +kernel) ⟨Nat.le_of_ble_eq_true rfl, Nat.le_of_ble_eq_true rfl⟩) ⟨fun a U g mk q => ⟨q.1, q.2.1, va_K.moved (u := U) (U := U.calling g mk a) (Vm.Alike.refl U.vm) q.2.2⟩, va_recv hK hP (ci := 2) (q0 := 0) rfl rfl, fun U hU hW => ⟨rfl, by rw [hU]; exact hP, va_K.moved hW.alike hK⟩⟩ rfl rfl hl.1 rfl (lv_room (Nat.le_of_ble_eq_true rfl)) dX1_stand_74 ⟨Nat.le_of_ble_eq_true rfl, Nat.le_of_ble_eq_true rfl⟩) (fun r_8 hr_8 => ?_)
        subst hr_8
        refine lv_iload_n hx hb dX1_stand_77 rfl (lv_at hl 0 rfl) ?_
        refine kn_iadd hx hb dX1_stand_78 ?_
        refine W.widen (k := 0) (n := 0) (Nat.le_of_ble_eq_true rfl) (Nat.le_of_ble_eq_true rfl) ?_
        exact W.iret (v := nI ((slM io mv sz mk se g) + 30)) hx hb hr (fun t9 ht9 hW9 => ⟨⟨_, rfl, congrArg nI (congrArg (fun z => slM io mv sz mk se g + z) (show 30 = swM io mv sz mk se g from by unfold swM; rw [if_neg c_4, if_neg (Nat.not_lt.mpr c_5), if_pos c_6])), by rw [ht9]; exact hP⟩, hS.F ht9⟩) hS.2.2 dX1_stand_79
    · refine lv_bipush (v := nI 20) hx hb dX1_stand_47 (by decide) ?_
      refine lv_goto (tgt := 71) hx hb dX1_stand_49 (by decide) ?_
      refine lv_istore_n (lv' := [(3, .int (nI 20)), (2, .int (nI (wy (lo io sz ((2 * g) + 1) || !se ((3 * g) + 2)) (lw mv sz ((2 * g) + 1)) (mk ((3 * g) + 2))))), (0, .ref k0), (1, .int (nI g))]) hx hb dX1_stand_71 rfl hl (by decide) rfl (fun ls hl => ?_)
      refine lv_aload_n hx hb dX1_stand_72 rfl (lv_at hl 2 rfl) ?_
      refine lv_iload_n hx hb dX1_stand_73 rfl (lv_at hl 3 rfl) ?_
      refine rd_calli (va_runV (As := [.int (nI g)]) (rest := []) ⟨hx, hb, hml, hown, hts⟩ (c_X1_levelStand l D k0 kv ko ks km kt kp kb cZ cD cI (thr false false false) mv io sz mk se pv pd op mw hsz g (by omega)) (cwV 1 hts gX1_stand_X1_levelStand rfl rfl rfl (by decide +kernel) ⟨Nat.le_of_ble_eq_true rfl, Nat.le_of_ble_eq_true rfl⟩) ⟨fun a U g mk q => ⟨q.1, q.2.1, va_K.moved (u := U) (U := U.calling g mk a) (Vm.Alike.refl U.vm) q.2.2⟩, va_recv hK hP (ci := 2) (q0 := 0) rfl rfl, fun U hU hW => ⟨rfl, by rw [hU]; exact hP, va_K.moved hW.alike hK⟩⟩ rfl rfl hl.1 rfl (lv_room (Nat.le_of_ble_eq_true rfl)) dX1_stand_74 ⟨Nat.le_of_ble_eq_true rfl, Nat.le_of_ble_eq_true rfl⟩) (fun r_9 hr_9 => ?_)
      subst hr_9
      refine lv_iload_n hx hb dX1_stand_77 rfl (lv_at hl 0 rfl) ?_
      refine kn_iadd hx hb dX1_stand_78 ?_
      refine W.widen (k := 0) (n := 0) (Nat.le_of_ble_eq_true rfl) (Nat.le_of_ble_eq_true rfl) ?_
      exact W.iret (v := nI ((slM io mv sz mk se g) + 20)) hx hb hr (fun t9 ht9 hW9 => ⟨⟨_, rfl, congrArg nI (congrArg (fun z => slM io mv sz mk se g + z) (show 20 = swM io mv sz mk se g from by unfold swM; rw [if_neg c_4, if_pos c_5])), by rw [ht9]; exact hP⟩, hS.F ht9⟩) hS.2.2 dX1_stand_79
  · refine lv_bipush (v := nI 10) hx hb dX1_stand_36 (by decide) ?_
    refine lv_goto (tgt := 71) hx hb dX1_stand_38 (by decide) ?_
    refine lv_istore_n (lv' := [(3, .int (nI 10)), (2, .int (nI (wy (lo io sz ((2 * g) + 1) || !se ((3 * g) + 2)) (lw mv sz ((2 * g) + 1)) (mk ((3 * g) + 2))))), (0, .ref k0), (1, .int (nI g))]) hx hb dX1_stand_71 rfl hl (by decide) rfl (fun ls hl => ?_)
    refine lv_aload_n hx hb dX1_stand_72 rfl (lv_at hl 2 rfl) ?_
    refine lv_iload_n hx hb dX1_stand_73 rfl (lv_at hl 3 rfl) ?_
    refine rd_calli (va_runV (As := [.int (nI g)]) (rest := []) ⟨hx, hb, hml, hown, hts⟩ (c_X1_levelStand l D k0 kv ko ks km kt kp kb cZ cD cI (thr false false false) mv io sz mk se pv pd op mw hsz g (by omega)) (cwV 1 hts gX1_stand_X1_levelStand rfl rfl rfl (by decide +kernel) ⟨Nat.le_of_ble_eq_true rfl, Nat.le_of_ble_eq_true rfl⟩) ⟨fun a U g mk q => ⟨q.1, q.2.1, va_K.moved (u := U) (U := U.calling g mk a) (Vm.Alike.refl U.vm) q.2.2⟩, va_recv hK hP (ci := 2) (q0 := 0) rfl rfl, fun U hU hW => ⟨rfl, by rw [hU]; exact hP, va_K.moved hW.alike hK⟩⟩ rfl rfl hl.1 rfl (lv_room (Nat.le_of_ble_eq_true rfl)) dX1_stand_74 ⟨Nat.le_of_ble_eq_true rfl, Nat.le_of_ble_eq_true rfl⟩) (fun r_10 hr_10 => ?_)
    subst hr_10
    refine lv_iload_n hx hb dX1_stand_77 rfl (lv_at hl 0 rfl) ?_
    refine kn_iadd hx hb dX1_stand_78 ?_
    refine W.widen (k := 0) (n := 0) (Nat.le_of_ble_eq_true rfl) (Nat.le_of_ble_eq_true rfl) ?_
    exact W.iret (v := nI ((slM io mv sz mk se g) + 10)) hx hb hr (fun t9 ht9 hW9 => ⟨⟨_, rfl, congrArg nI (congrArg (fun z => slM io mv sz mk se g + z) (show 10 = swM io mv sz mk se g from by unfold swM; rw [if_pos c_4])), by rw [ht9]; exact hP⟩, hS.F ht9⟩) hS.2.2 dX1_stand_79
set_option maxHeartbeats 4000000 in
set_option maxRecDepth 100000 in
theorem c_X1_order (l : Launch) (D : va_G) (k0 kv ko ks km kt kp kb : Nat) (cZ cD cI : ClassId) (th : Nat) (mv : Nat → UInt64) (io : Nat → Bool) (sz : Nat → Nat) (mk : Nat → UInt64) (se : Nat → Bool) (pv : Nat → UInt64) (pd : Nat → Bool) (op : Bool) (mw : Int32) (hsz : ∀ j, sz j ≤ 12) (zz : Nat) (k : Nat) (hk : k < 6) : Met l yX1_order wsX1_order ({ frames := 4, cells := 0, slots := 0, locals := 89 }) (va_Pc [.ref k0, .int (nI k)] (fun U => U.heap.size = zz ∧ va_P D vwCl (WM k0 kv ko ks km kt kp kb cZ cD cI th mv io sz mk se pv pd op mw) U.heap ∧ va_K D vwCl (TY cZ cD cI) U ∧ va_D (fun _ => True) (WM k0 kv ko ks km kt kp kb cZ cD cI th mv io sz mk se pv pd op mw))) (wr_Qi (fun r => r = nI (fM (rkM io mv sz) k 6)) (fun H => va_P D vwCl (WM k0 kv ko ks km kt kp kb cZ cD cI (thr false false false) mv io sz mk se pv pd op mw) H) (va_A (WM k0 kv ko ks km kt kp kb cZ cD cI th mv io sz mk se pv pd op mw) zz))  0 0 (va_A (WM k0 kv ko ks km kt kp kb cZ cD cI th mv io sz mk se pv pd op mw) zz) := by
  refine Met.ofW (cc := cX1_order) (maxL := 6) (ret := some .int) (by decide) rfl ?_
  intro p e s m args below meth c s₁ B hml hv
  obtain ⟨rfl, hsz_, hP, hK, hD0⟩ := hv
  have hx := B.exec
  have hb := B.bytes
  have hr := B.returns
  have hts := atoms_spec (ws := wsX1_order) B.pre
  have hown : s.vm.findClass RX1 = some m.cls := findClass_of_methodNamed B.named
  have hlocks := B.notSynchronized
  subst hsz_
  have hD := hD0.self (sz := s.heap.size)
  generalize hAe : va_A (WM k0 kv ko ks km kt kp kb cZ cD cI th mv io sz mk se pv pd op mw) s.heap.size = A at hD ⊢
  have hA : ∀ q : Nat, s.heap.size ≤ q → A q := fun q h => by rw [← hAe]; exact Or.inr h
  have hS : va_S A s.heap s.heap [] := va_S.rf
  have hl := lv_entry ([.ref k0, .int (nI k)]) (n := 6) (Nat.le_of_ble_eq_true rfl)
  rw [lg_entry_eq]
  generalize (lg_sl ([.ref k0, .int (nI k)]) ++ List.replicate (6 - (lg_sl ([.ref k0, .int (nI k)])).length) Slot.unset).toArray = ls at hl ⊢
  have hl : lv_has ls 6 [(0, .ref k0), (1, .int (nI k))] := hl
  refine lv_aload_n hx hb dX1_order_0 rfl (lv_at hl 0 rfl) ?_
  refine lv_iload_n hx hb dX1_order_1 rfl (lv_at hl 1 rfl) ?_
  refine lv_iconst (v := nI 5) hx hb dX1_order_2 (by decide) ?_
  refine rd_calli (va_runS (As := [.int (nI k), .int (nI 5)]) (rest := [.ref k0]) ⟨hx, hb, hml, hown, hts⟩ (c_X1_inside l k 5 (by omega) (by omega)) (va_cwS 2 hts gX1_order_X1_outside rfl rfl rfl (by decide +kernel) ⟨Nat.le_of_ble_eq_true rfl, Nat.le_of_ble_eq_true rfl⟩) ⟨fun a U g mk q => q, fun U hU hW => ⟨rfl, trivial⟩⟩ rfl rfl hl.1 rfl (lv_room (Nat.le_of_ble_eq_true rfl)) dX1_order_3 ⟨Nat.le_of_ble_eq_true rfl, Nat.le_of_ble_eq_true rfl⟩) (fun r_1 hr_1 => ?_)
  subst hr_1
  refine lv_iconst (v := nI 0) hx hb dX1_order_6 (by decide) ?_
  refine lv_iconst (v := nI 0) hx hb dX1_order_7 (by decide) ?_
  have hFc := va_free (wc := WM k0 kv ko ks km kt kp kb cZ cD cI th mv io sz mk se pv pd op mw) hD hS hA [0, 1, 2, 3, 4, 5, 6, 7] rfl
  refine wr_calli (va_runV (As := [.int (b2i false), .int (b2i false), .int (b2i false)]) (rest := []) ⟨hx, hb, hml, hown, hts⟩ (c_X1_throwing l D k0 kv ko ks km kt kp kb cZ cD cI th mv io sz mk se pv pd op mw hsz s.heap.size false false false ) (cwV 3 hts gX1_order_X1_throwing rfl rfl rfl (by decide +kernel) ⟨Nat.le_of_ble_eq_true rfl, Nat.le_of_ble_eq_true rfl⟩) ⟨fun a U g mk q => ⟨q.1, q.2.1, q.2.2.1, va_K.moved (u := U) (U := U.calling g mk a) (Vm.Alike.refl U.vm) q.2.2.2.1, q.2.2.2.2⟩, va_recv hK hP (ci := 2) (q0 := 0) rfl rfl, fun U hU hW => ⟨rfl, by rw [hU], by rw [hU]; exact hP, va_K.moved hW.alike hK, hD.weaken (fun _ _ _ _ => trivial)⟩⟩ rfl rfl hl.1 rfl (lv_room (Nat.le_of_ble_eq_true rfl)) dX1_order_8 ⟨Nat.le_of_ble_eq_true rfl, Nat.le_of_ble_eq_true rfl⟩) hS hFc (fun r_2 H locs hr_2 hP _ _ hS => ?_)
  subst hr_2
  refine kt_i (y := b2i false) rfl ?_
  have hD : va_D A (WM k0 kv ko ks km kt kp kb cZ cD cI (thr false false false) mv io sz mk se pv pd op mw) := va_D_same (ws := WM k0 kv ko ks km kt kp kb cZ cD cI th mv io sz mk se pv pd op mw) rfl hD
  have hP : va_P D vwCl (WM k0 kv ko ks km kt kp kb cZ cD cI (thr false false false) mv io sz mk se pv pd op mw) H := hP
  refine kb_eq (tgt := 16) hx hb dX1_order_11 (by decide) (fun _ => ?_) (fun h => absurd h (by decide))
  refine lv_iconst (v := nI 0) hx hb dX1_order_16 (by decide) ?_
  refine lv_istore_n (lv' := [(2, .int (nI 0)), (0, .ref k0), (1, .int (nI k))]) hx hb dX1_order_17 rfl hl (by decide) rfl (fun ls hl => ?_)
  refine lv_iconst (v := nI 0) hx hb dX1_order_18 (by decide) ?_
  refine lv_istore_n (lv' := [(3, .int (nI 0)), (2, .int (nI 0)), (0, .ref k0), (1, .int (nI k))]) hx hb dX1_order_19 rfl hl (by decide) rfl (fun ls hl => ?_)
  refine (?_ : ∀ (k_ i : Nat) (ls : Array Slot), i + k_ = 6 → lv_has ls 6 [(0, .ref k0), (1, .int (nI k)), (2, .int (nI (fM (rkM io mv sz) k i))), (3, .int (nI i))] → W p l e _ s m _ below meth c _ _ _ _ _ (F0 m 20 ls [])) 6 0 ls (by omega) (lv_sub hl [2, 3, 1, 0] rfl)
  clear hl
  intro k_
  induction k_ with
  | zero =>
    intro i ls hi hl
    refine lv_iload_n hx hb dX1_order_20 rfl (lv_at hl 3 rfl) ?_
    refine lv_bipush (v := nI 6) hx hb dX1_order_21 (by decide) ?_
    refine kn_icmp_ge (tgt := 90) hx hb (by omega) (by decide) dX1_order_23 (by decide) (fun c_x => ?_) (fun h => absurd h (by omega))
    refine lv_iload_n hx hb dX1_order_90 rfl (lv_at hl 2 rfl) ?_
    refine W.widen (k := 0) (n := 0) (Nat.le_of_ble_eq_true rfl) (Nat.le_of_ble_eq_true rfl) ?_
    exact W.iret (v := nI (fM (rkM io mv sz) k i)) hx hb hr (fun t9 ht9 hW9 => ⟨⟨_, rfl, by rw [show i = 6 by omega], by rw [ht9]; exact hP⟩, hS.F ht9⟩) hS.2.2 dX1_order_91
  | succ k_ ih =>
    intro i ls hi hl
    refine lv_iload_n hx hb dX1_order_20 rfl (lv_at hl 3 rfl) ?_
    refine lv_bipush (v := nI 6) hx hb dX1_order_21 (by decide) ?_
    refine kn_icmp_ge (tgt := 90) hx hb (by omega) (by decide) dX1_order_23 (by decide) (fun h => absurd h (by omega)) (fun c_x => ?_)
    refine lv_iconst (v := nI 0) hx hb dX1_order_26 (by decide) ?_
    refine lv_istore (lv' := [(4, .int (nI 0)), (0, .ref k0), (1, .int (nI k)), (2, .int (nI (fM (rkM io mv sz) k i))), (3, .int (nI i))]) hx hb dX1_order_27 hl (by decide) rfl (fun ls hl => ?_)
    refine lv_iconst (v := nI 0) hx hb dX1_order_29 (by decide) ?_
    refine lv_istore (lv' := [(5, .int (nI 0)), (4, .int (nI 0)), (0, .ref k0), (1, .int (nI k)), (2, .int (nI (fM (rkM io mv sz) k i))), (3, .int (nI i))]) hx hb dX1_order_30 hl (by decide) rfl (fun ls hl => ?_)
    refine (?_ : ∀ (k1_ i1 : Nat) (ls : Array Slot), i1 + k1_ = 6 → lv_has ls 6 [(0, .ref k0), (1, .int (nI k)), (2, .int (nI (fM (rkM io mv sz) k i))), (3, .int (nI i)), (4, .int (nI (cn (fun j => decide (j ≠ i) && ahM io mv sz j i) i1))), (5, .int (nI i1))] → W p l e _ s m _ below meth c _ _ _ _ _ (F0 m 32 ls [])) 6 0 ls (by omega) (lv_sub hl [2, 3, 4, 5, 1, 0] rfl)
    clear hl
    intro k1_
    induction k1_ with
    | zero =>
      intro i1 ls hi1 hl
      refine lv_iload hx hb dX1_order_32 (lv_at hl 5 rfl) ?_
      refine lv_bipush (v := nI 6) hx hb dX1_order_34 (by decide) ?_
      refine kn_icmp_ge (tgt := 72) hx hb (by omega) (by decide) dX1_order_36 (by decide) (fun c_x => ?_) (fun h => absurd h (by omega))
      refine lv_iload hx hb dX1_order_72 (lv_at hl 4 rfl) ?_
      refine lv_iload_n hx hb dX1_order_74 rfl (lv_at hl 1 rfl) ?_
      refine kn_icmp_ne (tgt := 82) hx hb (Nat.lt_of_le_of_lt (cn_le _ _) (by omega)) (by omega) dX1_order_75 (by decide) (fun c_3 => ?_) (fun c_3 => ?_)
      · refine lv_iload_n hx hb dX1_order_82 rfl (lv_at hl 2 rfl) ?_
        refine lv_istore_n (lv' := [(2, .int (nI (fM (rkM io mv sz) k i))), (0, .ref k0), (1, .int (nI k)), (3, .int (nI i)), (4, .int (nI (cn (fun j => decide (j ≠ i) && ahM io mv sz j i) i1))), (5, .int (nI i1))]) hx hb dX1_order_83 rfl hl (by decide) rfl (fun ls hl => ?_)
        refine lv_iinc (v := nI (i + 1)) (lv' := [(3, .int (nI (i + 1))), (2, .int (nI (fM (rkM io mv sz) k i))), (0, .ref k0), (1, .int (nI k)), (4, .int (nI (cn (fun j => decide (j ≠ i) && ahM io mv sz j i) i1))), (5, .int (nI i1))]) hx hb dX1_order_84 hl (k := 3) rfl (nI_add i 1) (by decide) rfl (fun ls hl => ?_)
        refine lv_goto (tgt := 20) hx hb dX1_order_87 (by decide) ?_
        have q_1 : rkM io mv sz i = cn (fun j => decide (j ≠ i) && ahM io mv sz j i) i1 := by rw [show i1 = 6 by omega]; rfl
        have e_1 : fM (rkM io mv sz) k (i + 1) = fM (rkM io mv sz) k i := fM_f (by rw [q_1]; exact c_3)
        exact ih (i + 1) ls (by omega) (by rw [e_1]; exact lv_sub hl [2, 3, 1, 0] rfl)
      · refine lv_iload_n hx hb dX1_order_78 rfl (lv_at hl 3 rfl) ?_
        refine lv_goto (tgt := 83) hx hb dX1_order_79 (by decide) ?_
        refine lv_istore_n (lv' := [(2, .int (nI i)), (0, .ref k0), (1, .int (nI k)), (3, .int (nI i)), (4, .int (nI (cn (fun j => decide (j ≠ i) && ahM io mv sz j i) i1))), (5, .int (nI i1))]) hx hb dX1_order_83 rfl hl (by decide) rfl (fun ls hl => ?_)
        refine lv_iinc (v := nI (i + 1)) (lv' := [(3, .int (nI (i + 1))), (2, .int (nI i)), (0, .ref k0), (1, .int (nI k)), (4, .int (nI (cn (fun j => decide (j ≠ i) && ahM io mv sz j i) i1))), (5, .int (nI i1))]) hx hb dX1_order_84 hl (k := 3) rfl (nI_add i 1) (by decide) rfl (fun ls hl => ?_)
        refine lv_goto (tgt := 20) hx hb dX1_order_87 (by decide) ?_
        have q_1 : rkM io mv sz i = cn (fun j => decide (j ≠ i) && ahM io mv sz j i) i1 := by rw [show i1 = 6 by omega]; rfl
        have e_1 : fM (rkM io mv sz) k (i + 1) = i := fM_t (by rw [q_1]; exact c_3)
        exact ih (i + 1) ls (by omega) (by rw [e_1]; exact lv_sub hl [2, 3, 1, 0] rfl)
    | succ k1_ ih1 =>
      intro i1 ls hi1 hl
      refine lv_iload hx hb dX1_order_32 (lv_at hl 5 rfl) ?_
      refine lv_bipush (v := nI 6) hx hb dX1_order_34 (by decide) ?_
      refine kn_icmp_ge (tgt := 72) hx hb (by omega) (by decide) dX1_order_36 (by decide) (fun h => absurd h (by omega)) (fun c_x => ?_)
      refine lv_iload hx hb dX1_order_39 (lv_at hl 5 rfl) ?_
      refine lv_iload_n hx hb dX1_order_41 rfl (lv_at hl 3 rfl) ?_
      refine kn_icmp_eq (tgt := 62) hx hb (by omega) (by omega) dX1_order_42 (by decide) (fun c_4 => ?_) (fun c_4 => ?_)
      · refine lv_iload hx hb dX1_order_62 (lv_at hl 4 rfl) ?_
        refine lv_istore (lv' := [(4, .int (nI (cn (fun j => decide (j ≠ i) && ahM io mv sz j i) i1))), (0, .ref k0), (1, .int (nI k)), (2, .int (nI (fM (rkM io mv sz) k i))), (3, .int (nI i)), (5, .int (nI i1))]) hx hb dX1_order_64 hl (by decide) rfl (fun ls hl => ?_)
        refine lv_iinc (v := nI (i1 + 1)) (lv' := [(5, .int (nI (i1 + 1))), (4, .int (nI (cn (fun j => decide (j ≠ i) && ahM io mv sz j i) i1))), (0, .ref k0), (1, .int (nI k)), (2, .int (nI (fM (rkM io mv sz) k i))), (3, .int (nI i))]) hx hb dX1_order_66 hl (k := 5) rfl (nI_add i1 1) (by decide) rfl (fun ls hl => ?_)
        refine lv_goto (tgt := 32) hx hb dX1_order_69 (by decide) ?_
        have e_1 : cn (fun j => decide (j ≠ i) && ahM io mv sz j i) (i1 + 1) = cn (fun j => decide (j ≠ i) && ahM io mv sz j i) i1 := cn_f (P := (fun j => decide (j ≠ i) && ahM io mv sz j i)) (i := i1) (by simp [c_4])
        exact ih1 (i1 + 1) ls (by omega) (by rw [e_1]; exact lv_sub hl [2, 3, 4, 5, 1, 0] rfl)
      · refine lv_aload_n hx hb dX1_order_45 rfl (lv_at hl 0 rfl) ?_
        refine lv_iload hx hb dX1_order_46 (lv_at hl 5 rfl) ?_
        refine lv_iload_n hx hb dX1_order_48 rfl (lv_at hl 3 rfl) ?_
        refine rd_calli (va_runV (As := [.int (nI i1), .int (nI i)]) (rest := []) ⟨hx, hb, hml, hown, hts⟩ (c_X1_isAhead l D k0 kv ko ks km kt kp kb cZ cD cI (thr false false false) mv io sz mk se pv pd op mw hsz i1 i (by omega) (by omega)) (cwV 2 hts gX1_order_X1_isAhead rfl rfl rfl (by decide +kernel) ⟨Nat.le_of_ble_eq_true rfl, Nat.le_of_ble_eq_true rfl⟩) ⟨fun a U g mk q => ⟨q.1, q.2.1, va_K.moved (u := U) (U := U.calling g mk a) (Vm.Alike.refl U.vm) q.2.2⟩, va_recv hK hP (ci := 2) (q0 := 0) rfl rfl, fun U hU hW => ⟨rfl, by rw [hU]; exact hP, va_K.moved hW.alike hK⟩⟩ rfl rfl hl.1 rfl (lv_room (Nat.le_of_ble_eq_true rfl)) dX1_order_49 ⟨Nat.le_of_ble_eq_true rfl, Nat.le_of_ble_eq_true rfl⟩) (fun r_5 hr_5 => ?_)
        subst hr_5
        refine kb_eq (tgt := 62) hx hb dX1_order_52 (by decide) (fun c_6 => ?_) (fun c_6 => ?_)
        · refine lv_iload hx hb dX1_order_62 (lv_at hl 4 rfl) ?_
          refine lv_istore (lv' := [(4, .int (nI (cn (fun j => decide (j ≠ i) && ahM io mv sz j i) i1))), (0, .ref k0), (1, .int (nI k)), (2, .int (nI (fM (rkM io mv sz) k i))), (3, .int (nI i)), (5, .int (nI i1))]) hx hb dX1_order_64 hl (by decide) rfl (fun ls hl => ?_)
          refine lv_iinc (v := nI (i1 + 1)) (lv' := [(5, .int (nI (i1 + 1))), (4, .int (nI (cn (fun j => decide (j ≠ i) && ahM io mv sz j i) i1))), (0, .ref k0), (1, .int (nI k)), (2, .int (nI (fM (rkM io mv sz) k i))), (3, .int (nI i))]) hx hb dX1_order_66 hl (k := 5) rfl (nI_add i1 1) (by decide) rfl (fun ls hl => ?_)
          refine lv_goto (tgt := 32) hx hb dX1_order_69 (by decide) ?_
          have e_1 : cn (fun j => decide (j ≠ i) && ahM io mv sz j i) (i1 + 1) = cn (fun j => decide (j ≠ i) && ahM io mv sz j i) i1 := cn_f (P := (fun j => decide (j ≠ i) && ahM io mv sz j i)) (i := i1) (by simp [c_4, c_6])
          exact ih1 (i1 + 1) ls (by omega) (by rw [e_1]; exact lv_sub hl [2, 3, 4, 5, 1, 0] rfl)
        · refine lv_iload hx hb dX1_order_55 (lv_at hl 4 rfl) ?_
          refine lv_iconst (v := nI 1) hx hb dX1_order_57 (by decide) ?_
          refine kn_iadd hx hb dX1_order_58 ?_
          refine lv_goto (tgt := 64) hx hb dX1_order_59 (by decide) ?_
          refine lv_istore (lv' := [(4, .int (nI ((cn (fun j => decide (j ≠ i) && ahM io mv sz j i) i1) + 1))), (0, .ref k0), (1, .int (nI k)), (2, .int (nI (fM (rkM io mv sz) k i))), (3, .int (nI i)), (5, .int (nI i1))]) hx hb dX1_order_64 hl (by decide) rfl (fun ls hl => ?_)
          refine lv_iinc (v := nI (i1 + 1)) (lv' := [(5, .int (nI (i1 + 1))), (4, .int (nI ((cn (fun j => decide (j ≠ i) && ahM io mv sz j i) i1) + 1))), (0, .ref k0), (1, .int (nI k)), (2, .int (nI (fM (rkM io mv sz) k i))), (3, .int (nI i))]) hx hb dX1_order_66 hl (k := 5) rfl (nI_add i1 1) (by decide) rfl (fun ls hl => ?_)
          refine lv_goto (tgt := 32) hx hb dX1_order_69 (by decide) ?_
          have e_1 : cn (fun j => decide (j ≠ i) && ahM io mv sz j i) (i1 + 1) = (cn (fun j => decide (j ≠ i) && ahM io mv sz j i) i1) + 1 := cn_t (P := (fun j => decide (j ≠ i) && ahM io mv sz j i)) (i := i1) (by simp [c_4, c_6])
          exact ih1 (i1 + 1) ls (by omega) (by rw [e_1]; exact lv_sub hl [2, 3, 4, 5, 1, 0] rfl)
set_option maxHeartbeats 4000000 in
set_option maxRecDepth 100000 in
theorem c_X1_size (l : Launch) (D : va_G) (k0 kv ko ks km kt kp kb : Nat) (cZ cD cI : ClassId) (th : Nat) (mv : Nat → UInt64) (io : Nat → Bool) (sz : Nat → Nat) (mk : Nat → UInt64) (se : Nat → Bool) (pv : Nat → UInt64) (pd : Nat → Bool) (op : Bool) (mw : Int32) (hsz : ∀ j, sz j ≤ 12) (zz : Nat) (g : Nat) (w : Nat) (hg : g < 6) (hw : w < 2) : Met l yX1_size wsX1_size ({ frames := 1, cells := 0, slots := 0, locals := 23 }) (va_Pc [.ref k0, .int (nI g), .int (nI w)] (fun U => U.heap.size = zz ∧ va_P D vwCl (WM k0 kv ko ks km kt kp kb cZ cD cI th mv io sz mk se pv pd op mw) U.heap ∧ va_K D vwCl (TY cZ cD cI) U ∧ va_D (fun _ => True) (WM k0 kv ko ks km kt kp kb cZ cD cI th mv io sz mk se pv pd op mw))) (wr_Qi (fun r => r = nI (sz (2 * g + w))) (fun H => va_P D vwCl (WM k0 kv ko ks km kt kp kb cZ cD cI (thr false false false) mv io sz mk se pv pd op mw) H) (va_A (WM k0 kv ko ks km kt kp kb cZ cD cI th mv io sz mk se pv pd op mw) zz))  0 0 (va_A (WM k0 kv ko ks km kt kp kb cZ cD cI th mv io sz mk se pv pd op mw) zz) := by
  refine Met.ofW (cc := cX1_size) (maxL := 3) (ret := some .int) (by decide) rfl ?_
  intro p e s m args below meth c s₁ B hml hv
  obtain ⟨rfl, hsz_, hP, hK, hD0⟩ := hv
  have hx := B.exec
  have hb := B.bytes
  have hr := B.returns
  have hts := atoms_spec (ws := wsX1_size) B.pre
  have hown : s.vm.findClass RX1 = some m.cls := findClass_of_methodNamed B.named
  have hlocks := B.notSynchronized
  subst hsz_
  have hD := hD0.self (sz := s.heap.size)
  generalize hAe : va_A (WM k0 kv ko ks km kt kp kb cZ cD cI th mv io sz mk se pv pd op mw) s.heap.size = A at hD ⊢
  have hA : ∀ q : Nat, s.heap.size ≤ q → A q := fun q h => by rw [← hAe]; exact Or.inr h
  have hS : va_S A s.heap s.heap [] := va_S.rf
  have hl := lv_entry ([.ref k0, .int (nI g), .int (nI w)]) (n := 3) (Nat.le_of_ble_eq_true rfl)
  rw [lg_entry_eq]
  generalize (lg_sl ([.ref k0, .int (nI g), .int (nI w)]) ++ List.replicate (3 - (lg_sl ([.ref k0, .int (nI g), .int (nI w)])).length) Slot.unset).toArray = ls at hl ⊢
  have hl : lv_has ls 3 [(0, .ref k0), (1, .int (nI g)), (2, .int (nI w))] := hl
  have hinRX1 : ∀ w ∈ wsX10, w ∈ wsX1_size := by decide +kernel
  have hf_17 := hts (.fieldLink RX1 17 "HarbourBoardModel" "sizes" "[I") (by decide +kernel)
  refine lv_aload_n hx hb dX1_size_0 rfl (lv_at hl 0 rfl) ?_
  refine lv_iload_n hx hb dX1_size_1 rfl (lv_at hl 1 rfl) ?_
  refine lv_iconst (v := nI 5) hx hb dX1_size_2 (by decide) ?_
  refine rd_calli (va_runS (As := [.int (nI g), .int (nI 5)]) (rest := [.ref k0]) ⟨hx, hb, hml, hown, hts⟩ (c_X1_inside l g 5 (by omega) (by omega)) (va_cwS 2 hts gX1_size_X1_outside rfl rfl rfl (by decide +kernel) ⟨Nat.le_of_ble_eq_true rfl, Nat.le_of_ble_eq_true rfl⟩) ⟨fun a U g mk q => q, fun U hU hW => ⟨rfl, trivial⟩⟩ rfl rfl hl.1 rfl (lv_room (Nat.le_of_ble_eq_true rfl)) dX1_size_3 ⟨Nat.le_of_ble_eq_true rfl, Nat.le_of_ble_eq_true rfl⟩) (fun r_1 hr_1 => ?_)
  subst hr_1
  refine kb_ne (tgt := 17) hx hb dX1_size_6 (by decide) (fun h => absurd h (by decide)) (fun _ => ?_)
  refine lv_iload_n hx hb dX1_size_9 rfl (lv_at hl 2 rfl) ?_
  refine lv_iconst (v := nI 1) hx hb dX1_size_10 (by decide) ?_
  refine rd_calli (va_runS (As := [.int (nI w), .int (nI 1)]) (rest := [.ref k0]) ⟨hx, hb, hml, hown, hts⟩ (c_X1_inside l w 1 (by omega) (by omega)) (va_cwS 2 hts gX1_size_X1_outside rfl rfl rfl (by decide +kernel) ⟨Nat.le_of_ble_eq_true rfl, Nat.le_of_ble_eq_true rfl⟩) ⟨fun a U g mk q => q, fun U hU hW => ⟨rfl, trivial⟩⟩ rfl rfl hl.1 rfl (lv_room (Nat.le_of_ble_eq_true rfl)) dX1_size_11 ⟨Nat.le_of_ble_eq_true rfl, Nat.le_of_ble_eq_true rfl⟩) (fun r_2 hr_2 => ?_)
  subst hr_2
  refine kb_eq (tgt := 21) hx hb dX1_size_14 (by decide) (fun _ => ?_) (fun h => absurd h (by decide))
  refine lv_iconst (v := nI 0) hx hb dX1_size_21 (by decide) ?_
  refine lv_iconst (v := nI 0) hx hb dX1_size_22 (by decide) ?_
  refine lv_iconst (v := nI 0) hx hb dX1_size_23 (by decide) ?_
  have hFc := va_free (wc := WM k0 kv ko ks km kt kp kb cZ cD cI th mv io sz mk se pv pd op mw) hD hS hA [0, 1, 2, 3, 4, 5, 6, 7] rfl
  refine wr_calli (va_runV (As := [.int (b2i false), .int (b2i false), .int (b2i false)]) (rest := []) ⟨hx, hb, hml, hown, hts⟩ (c_X1_throwing l D k0 kv ko ks km kt kp kb cZ cD cI th mv io sz mk se pv pd op mw hsz s.heap.size false false false ) (cwV 3 hts gX1_size_X1_throwing rfl rfl rfl (by decide +kernel) ⟨Nat.le_of_ble_eq_true rfl, Nat.le_of_ble_eq_true rfl⟩) ⟨fun a U g mk q => ⟨q.1, q.2.1, q.2.2.1, va_K.moved (u := U) (U := U.calling g mk a) (Vm.Alike.refl U.vm) q.2.2.2.1, q.2.2.2.2⟩, va_recv hK hP (ci := 2) (q0 := 0) rfl rfl, fun U hU hW => ⟨rfl, by rw [hU], by rw [hU]; exact hP, va_K.moved hW.alike hK, hD.weaken (fun _ _ _ _ => trivial)⟩⟩ rfl rfl hl.1 rfl (lv_room (Nat.le_of_ble_eq_true rfl)) dX1_size_24 ⟨Nat.le_of_ble_eq_true rfl, Nat.le_of_ble_eq_true rfl⟩) hS hFc (fun r_3 H locs hr_3 hP _ _ hS => ?_)
  subst hr_3
  refine kt_i (y := b2i false) rfl ?_
  have hD : va_D A (WM k0 kv ko ks km kt kp kb cZ cD cI (thr false false false) mv io sz mk se pv pd op mw) := va_D_same (ws := WM k0 kv ko ks km kt kp kb cZ cD cI th mv io sz mk se pv pd op mw) rfl hD
  have hP : va_P D vwCl (WM k0 kv ko ks km kt kp kb cZ cD cI (thr false false false) mv io sz mk se pv pd op mw) H := hP
  refine kb_eq (tgt := 32) hx hb dX1_size_27 (by decide) (fun _ => ?_) (fun h => absurd h (by decide))
  refine lv_aload_n hx hb dX1_size_32 rfl (lv_at hl 0 rfl) ?_
  refine va_get (D := D) (ci := 2) (v := .ref ks) (C := RX1) (T := TX1) (N := 10) hx hb hts hinRX1 hown hK hP 0 rfl rfl 3 (by decide) hf_17 (fun _ h9 => h9) rfl dX1_size_33 ?_
  refine lv_iconst (v := nI 2) hx hb dX1_size_36 (by decide) ?_
  refine lv_iload_n hx hb dX1_size_37 rfl (lv_at hl 1 rfl) ?_
  refine kn_imul hx hb dX1_size_38 ?_
  refine lv_iload_n hx hb dX1_size_39 rfl (lv_at hl 2 rfl) ?_
  refine kn_iadd hx hb dX1_size_40 ?_
  refine kn_iald hx hb hK hP 3 2 rfl rfl (by omega) (by decide) dX1_size_41 ?_
  refine W.widen (k := 0) (n := 0) (Nat.le_of_ble_eq_true rfl) (Nat.le_of_ble_eq_true rfl) ?_
  exact W.iret (v := nI (sz ((2 * g) + w))) hx hb hr (fun t9 ht9 hW9 => ⟨⟨_, rfl, rfl, by rw [ht9]; exact hP⟩, hS.F ht9⟩) hS.2.2 dX1_size_42
set_option maxHeartbeats 4000000 in
set_option maxRecDepth 100000 in
theorem c_X1_highest (l : Launch) (D : va_G) (k0 kv ko ks km kt kp kb : Nat) (cZ cD cI : ClassId) (th : Nat) (mv : Nat → UInt64) (io : Nat → Bool) (sz : Nat → Nat) (mk : Nat → UInt64) (se : Nat → Bool) (pv : Nat → UInt64) (pd : Nat → Bool) (op : Bool) (mw : Int32) (hsz : ∀ j, sz j ≤ 12) (zz : Nat) (g : Nat) (pp : Nat) (hg : g < 6) (hpp : bo io mv (2 * g) 4 (sz (2 * g)) = some pp) : Met l yX1_highest wsX1_highest ({ frames := 2, cells := 0, slots := 0, locals := 49 }) (va_Pc [.ref k0, .int (nI g)] (fun U => U.heap.size = zz ∧ va_P D vwCl (WM k0 kv ko ks km kt kp kb cZ cD cI th mv io sz mk se pv pd op mw) U.heap ∧ va_K D vwCl (TY cZ cD cI) U ∧ va_D (fun _ => True) (WM k0 kv ko ks km kt kp kb cZ cD cI th mv io sz mk se pv pd op mw))) (wr_Qd (fun r => r = mv pp) (fun H => va_P D vwCl (WM k0 kv ko ks km kt kp kb cZ cD cI (thr false false false) mv io sz mk se pv pd op mw) H) (va_A (WM k0 kv ko ks km kt kp kb cZ cD cI th mv io sz mk se pv pd op mw) zz))  0 0 (va_A (WM k0 kv ko ks km kt kp kb cZ cD cI th mv io sz mk se pv pd op mw) zz) := by
  refine Met.ofW (cc := cX1_highest) (maxL := 4) (ret := some .double) (by decide) rfl ?_
  intro p e s m args below meth c s₁ B hml hv
  obtain ⟨rfl, hsz_, hP, hK, hD0⟩ := hv
  have hx := B.exec
  have hb := B.bytes
  have hr := B.returns
  have hts := atoms_spec (ws := wsX1_highest) B.pre
  have hown : s.vm.findClass RX1 = some m.cls := findClass_of_methodNamed B.named
  have hlocks := B.notSynchronized
  subst hsz_
  have hD := hD0.self (sz := s.heap.size)
  generalize hAe : va_A (WM k0 kv ko ks km kt kp kb cZ cD cI th mv io sz mk se pv pd op mw) s.heap.size = A at hD ⊢
  have hA : ∀ q : Nat, s.heap.size ≤ q → A q := fun q h => by rw [← hAe]; exact Or.inr h
  have hS : va_S A s.heap s.heap [] := va_S.rf
  have hl := lv_entry ([.ref k0, .int (nI g)]) (n := 4) (Nat.le_of_ble_eq_true rfl)
  rw [lg_entry_eq]
  generalize (lg_sl ([.ref k0, .int (nI g)]) ++ List.replicate (4 - (lg_sl ([.ref k0, .int (nI g)])).length) Slot.unset).toArray = ls at hl ⊢
  have hl : lv_has ls 4 [(0, .ref k0), (1, .int (nI g))] := hl
  have hinRX1 : ∀ w ∈ wsX10, w ∈ wsX1_highest := by decide +kernel
  have hf_7 := hts (.fieldLink RX1 7 "HarbourBoardModel" "value" "[D") (by decide +kernel)
  have h1 := hsz (2 * g)
  have h2 := bo_lt hpp
  refine lv_iload_n hx hb dX1_highest_0 rfl (lv_at hl 1 rfl) ?_
  refine lv_iconst (v := nI 5) hx hb dX1_highest_1 (by decide) ?_
  refine rd_calli (va_runS (As := [.int (nI g), .int (nI 5)]) (rest := []) ⟨hx, hb, hml, hown, hts⟩ (c_X1_inside l g 5 (by omega) (by omega)) (va_cwS 2 hts gX1_highest_X1_outside rfl rfl rfl (by decide +kernel) ⟨Nat.le_of_ble_eq_true rfl, Nat.le_of_ble_eq_true rfl⟩) ⟨fun a U g mk q => q, fun U hU hW => ⟨rfl, trivial⟩⟩ rfl rfl hl.1 rfl (lv_room (Nat.le_of_ble_eq_true rfl)) dX1_highest_2 ⟨Nat.le_of_ble_eq_true rfl, Nat.le_of_ble_eq_true rfl⟩) (fun r_1 hr_1 => ?_)
  subst hr_1
  refine lv_istore_n (lv' := [(2, .int (b2i false)), (0, .ref k0), (1, .int (nI g))]) hx hb dX1_highest_5 rfl hl (by decide) rfl (fun ls hl => ?_)
  refine lv_iload_n hx hb dX1_highest_6 rfl (lv_at hl 0 rfl) ?_
  refine kb_eq (tgt := 14) hx hb dX1_highest_7 (by decide) (fun _ => ?_) (fun h => absurd h (by decide))
  refine lv_aload_n hx hb dX1_highest_14 rfl (lv_at hl 1 rfl) ?_
  refine lv_iconst (v := nI 2) hx hb dX1_highest_15 (by decide) ?_
  refine lv_iload_n hx hb dX1_highest_16 rfl (lv_at hl 2 rfl) ?_
  refine kn_imul hx hb dX1_highest_17 ?_
  refine lv_iconst (v := nI 4) hx hb dX1_highest_18 (by decide) ?_
  refine rd_calli (va_runV (As := [.int (nI (2 * g)), .int (nI 4)]) (rest := []) ⟨hx, hb, hml, hown, hts⟩ (c_X1_best l D k0 kv ko ks km kt kp kb cZ cD cI th mv io sz mk se pv pd op mw hsz (2 * g) 4 (by omega) (by decide)) (cwV 2 hts gX1_highest_X1_best rfl rfl rfl (by decide +kernel) ⟨Nat.le_of_ble_eq_true rfl, Nat.le_of_ble_eq_true rfl⟩) ⟨fun a U g mk q => ⟨q.1, q.2.1, va_K.moved (u := U) (U := U.calling g mk a) (Vm.Alike.refl U.vm) q.2.2⟩, va_recv hK hP (ci := 2) (q0 := 0) rfl rfl, fun U hU hW => ⟨rfl, by rw [hU]; exact hP, va_K.moved hW.alike hK⟩⟩ rfl rfl hl.1 rfl (lv_room (Nat.le_of_ble_eq_true rfl)) dX1_highest_19 ⟨Nat.le_of_ble_eq_true rfl, Nat.le_of_ble_eq_true rfl⟩) (fun r_2 hr_2 => ?_)
  subst hr_2
  refine kt_i (y := nI pp) (by rw [hpp]; rfl) ?_
  refine lv_istore_n (lv' := [(3, .int (nI pp)), (2, .int (b2i false)), (0, .ref k0), (1, .int (nI g))]) hx hb dX1_highest_22 rfl hl (by decide) rfl (fun ls hl => ?_)
  refine lv_aload_n hx hb dX1_highest_23 rfl (lv_at hl 2 rfl) ?_
  refine lv_iload_n hx hb dX1_highest_24 rfl (lv_at hl 1 rfl) ?_
  refine lv_iload_n hx hb dX1_highest_25 rfl (lv_at hl 0 rfl) ?_
  refine kn_ifge (tgt := 33) hx hb (by omega) dX1_highest_26 (by decide) ?_
  refine lv_iconst (v := nI 0) hx hb dX1_highest_33 (by decide) ?_
  refine lv_iconst (v := nI 0) hx hb dX1_highest_34 (by decide) ?_
  have hFc := va_free (wc := WM k0 kv ko ks km kt kp kb cZ cD cI th mv io sz mk se pv pd op mw) hD hS hA [0, 1, 2, 3, 4, 5, 6, 7] rfl
  refine wr_calli (va_runV (As := [.int (b2i false), .int (b2i false), .int (b2i false)]) (rest := []) ⟨hx, hb, hml, hown, hts⟩ (c_X1_throwing l D k0 kv ko ks km kt kp kb cZ cD cI th mv io sz mk se pv pd op mw hsz s.heap.size false false false ) (cwV 3 hts gX1_highest_X1_throwing rfl rfl rfl (by decide +kernel) ⟨Nat.le_of_ble_eq_true rfl, Nat.le_of_ble_eq_true rfl⟩) ⟨fun a U g mk q => ⟨q.1, q.2.1, q.2.2.1, va_K.moved (u := U) (U := U.calling g mk a) (Vm.Alike.refl U.vm) q.2.2.2.1, q.2.2.2.2⟩, va_recv hK hP (ci := 2) (q0 := 0) rfl rfl, fun U hU hW => ⟨rfl, by rw [hU], by rw [hU]; exact hP, va_K.moved hW.alike hK, hD.weaken (fun _ _ _ _ => trivial)⟩⟩ rfl rfl hl.1 rfl (lv_room (Nat.le_of_ble_eq_true rfl)) dX1_highest_35 ⟨Nat.le_of_ble_eq_true rfl, Nat.le_of_ble_eq_true rfl⟩) hS hFc (fun r_3 H locs hr_3 hP _ _ hS => ?_)
  subst hr_3
  refine kt_i (y := b2i false) rfl ?_
  have hD : va_D A (WM k0 kv ko ks km kt kp kb cZ cD cI (thr false false false) mv io sz mk se pv pd op mw) := va_D_same (ws := WM k0 kv ko ks km kt kp kb cZ cD cI th mv io sz mk se pv pd op mw) rfl hD
  have hP : va_P D vwCl (WM k0 kv ko ks km kt kp kb cZ cD cI (thr false false false) mv io sz mk se pv pd op mw) H := hP
  refine kb_eq (tgt := 43) hx hb dX1_highest_38 (by decide) (fun _ => ?_) (fun h => absurd h (by decide))
  refine lv_aload_n hx hb dX1_highest_43 rfl (lv_at hl 2 rfl) ?_
  refine va_get (D := D) (ci := 2) (v := .ref kv) (C := RX1) (T := TX1) (N := 10) hx hb hts hinRX1 hown hK hP 0 rfl rfl 1 (by decide) hf_7 (fun _ h9 => h9) rfl dX1_highest_44 ?_
  refine lv_iload_n hx hb dX1_highest_47 rfl (lv_at hl 0 rfl) ?_
  refine kn_dald hx hb hK hP 1 1 rfl rfl (by omega) (by decide) dX1_highest_48 ?_
  refine W.widen (k := 0) (n := 0) (Nat.le_of_ble_eq_true rfl) (Nat.le_of_ble_eq_true rfl) ?_
  exact W.dret (v := mv pp) hx hb hr (fun t9 ht9 hW9 => ⟨⟨_, rfl, rfl, by rw [ht9]; exact hP⟩, hS.F ht9⟩) hS.2.2 dX1_highest_49
set_option maxHeartbeats 4000000 in
set_option maxRecDepth 100000 in
theorem c_X1_highest_none (l : Launch) (D : va_G) (k0 kv ko ks km kt kp kb : Nat) (cZ cD cI : ClassId) (th : Nat) (mv : Nat → UInt64) (io : Nat → Bool) (sz : Nat → Nat) (mk : Nat → UInt64) (se : Nat → Bool) (pv : Nat → UInt64) (pd : Nat → Bool) (op : Bool) (mw : Int32) (hsz : ∀ j, sz j ≤ 12) (zz : Nat) (g : Nat) (hg : g < 6) (hpp : bo io mv (2 * g) 4 (sz (2 * g)) = none) : Met l yX1_highest wsX1_highest ({ frames := 2, cells := 0, slots := 0, locals := 49 }) (va_Pc [.ref k0, .int (nI g)] (fun U => U.heap.size = zz ∧ va_P D vwCl (WM k0 kv ko ks km kt kp kb cZ cD cI th mv io sz mk se pv pd op mw) U.heap ∧ va_K D vwCl (TY cZ cD cI) U ∧ va_D (fun _ => True) (WM k0 kv ko ks km kt kp kb cZ cD cI th mv io sz mk se pv pd op mw))) (wr_Qd (fun r => r = FP.dconst0) (fun H => va_P D vwCl (WM k0 kv ko ks km kt kp kb cZ cD cI (thr false true false) mv io sz mk se pv pd op mw) H) (va_A (WM k0 kv ko ks km kt kp kb cZ cD cI th mv io sz mk se pv pd op mw) zz))  0 0 (va_A (WM k0 kv ko ks km kt kp kb cZ cD cI th mv io sz mk se pv pd op mw) zz) := by
  refine Met.ofW (cc := cX1_highest) (maxL := 4) (ret := some .double) (by decide) rfl ?_
  intro p e s m args below meth c s₁ B hml hv
  obtain ⟨rfl, hsz_, hP, hK, hD0⟩ := hv
  have hx := B.exec
  have hb := B.bytes
  have hr := B.returns
  have hts := atoms_spec (ws := wsX1_highest) B.pre
  have hown : s.vm.findClass RX1 = some m.cls := findClass_of_methodNamed B.named
  have hlocks := B.notSynchronized
  subst hsz_
  have hD := hD0.self (sz := s.heap.size)
  generalize hAe : va_A (WM k0 kv ko ks km kt kp kb cZ cD cI th mv io sz mk se pv pd op mw) s.heap.size = A at hD ⊢
  have hA : ∀ q : Nat, s.heap.size ≤ q → A q := fun q h => by rw [← hAe]; exact Or.inr h
  have hS : va_S A s.heap s.heap [] := va_S.rf
  have hl := lv_entry ([.ref k0, .int (nI g)]) (n := 4) (Nat.le_of_ble_eq_true rfl)
  rw [lg_entry_eq]
  generalize (lg_sl ([.ref k0, .int (nI g)]) ++ List.replicate (4 - (lg_sl ([.ref k0, .int (nI g)])).length) Slot.unset).toArray = ls at hl ⊢
  have hl : lv_has ls 4 [(0, .ref k0), (1, .int (nI g))] := hl
  refine lv_iload_n hx hb dX1_highest_0 rfl (lv_at hl 1 rfl) ?_
  refine lv_iconst (v := nI 5) hx hb dX1_highest_1 (by decide) ?_
  refine rd_calli (va_runS (As := [.int (nI g), .int (nI 5)]) (rest := []) ⟨hx, hb, hml, hown, hts⟩ (c_X1_inside l g 5 (by omega) (by omega)) (va_cwS 2 hts gX1_highest_X1_outside rfl rfl rfl (by decide +kernel) ⟨Nat.le_of_ble_eq_true rfl, Nat.le_of_ble_eq_true rfl⟩) ⟨fun a U g mk q => q, fun U hU hW => ⟨rfl, trivial⟩⟩ rfl rfl hl.1 rfl (lv_room (Nat.le_of_ble_eq_true rfl)) dX1_highest_2 ⟨Nat.le_of_ble_eq_true rfl, Nat.le_of_ble_eq_true rfl⟩) (fun r_1 hr_1 => ?_)
  subst hr_1
  refine lv_istore_n (lv' := [(2, .int (b2i false)), (0, .ref k0), (1, .int (nI g))]) hx hb dX1_highest_5 rfl hl (by decide) rfl (fun ls hl => ?_)
  refine lv_iload_n hx hb dX1_highest_6 rfl (lv_at hl 0 rfl) ?_
  refine kb_eq (tgt := 14) hx hb dX1_highest_7 (by decide) (fun _ => ?_) (fun h => absurd h (by decide))
  refine lv_aload_n hx hb dX1_highest_14 rfl (lv_at hl 1 rfl) ?_
  refine lv_iconst (v := nI 2) hx hb dX1_highest_15 (by decide) ?_
  refine lv_iload_n hx hb dX1_highest_16 rfl (lv_at hl 2 rfl) ?_
  refine kn_imul hx hb dX1_highest_17 ?_
  refine lv_iconst (v := nI 4) hx hb dX1_highest_18 (by decide) ?_
  refine rd_calli (va_runV (As := [.int (nI (2 * g)), .int (nI 4)]) (rest := []) ⟨hx, hb, hml, hown, hts⟩ (c_X1_best l D k0 kv ko ks km kt kp kb cZ cD cI th mv io sz mk se pv pd op mw hsz (2 * g) 4 (by omega) (by decide)) (cwV 2 hts gX1_highest_X1_best rfl rfl rfl (by decide +kernel) ⟨Nat.le_of_ble_eq_true rfl, Nat.le_of_ble_eq_true rfl⟩) ⟨fun a U g mk q => ⟨q.1, q.2.1, va_K.moved (u := U) (U := U.calling g mk a) (Vm.Alike.refl U.vm) q.2.2⟩, va_recv hK hP (ci := 2) (q0 := 0) rfl rfl, fun U hU hW => ⟨rfl, by rw [hU]; exact hP, va_K.moved hW.alike hK⟩⟩ rfl rfl hl.1 rfl (lv_room (Nat.le_of_ble_eq_true rfl)) dX1_highest_19 ⟨Nat.le_of_ble_eq_true rfl, Nat.le_of_ble_eq_true rfl⟩) (fun r_2 hr_2 => ?_)
  subst hr_2
  refine kt_i (y := (-1)) (by rw [hpp]; rfl) ?_
  refine lv_istore_n (lv' := [(3, .int ((-1))), (2, .int (b2i false)), (0, .ref k0), (1, .int (nI g))]) hx hb dX1_highest_22 rfl hl (by decide) rfl (fun ls hl => ?_)
  refine lv_aload_n hx hb dX1_highest_23 rfl (lv_at hl 2 rfl) ?_
  refine lv_iload_n hx hb dX1_highest_24 rfl (lv_at hl 1 rfl) ?_
  refine lv_iload_n hx hb dX1_highest_25 rfl (lv_at hl 0 rfl) ?_
  refine lv_if_ge (tgt := 33) hx hb dX1_highest_26 (by decide) (fun h => absurd h (by decide)) (fun c_x => ?_)
  refine lv_iconst (v := nI 1) hx hb dX1_highest_29 (by decide) ?_
  refine lv_goto (tgt := 34) hx hb dX1_highest_30 (by decide) ?_
  refine lv_iconst (v := nI 0) hx hb dX1_highest_34 (by decide) ?_
  have hFc := va_free (wc := WM k0 kv ko ks km kt kp kb cZ cD cI th mv io sz mk se pv pd op mw) hD hS hA [0, 1, 2, 3, 4, 5, 6, 7] rfl
  refine wr_calli (va_runV (As := [.int (b2i false), .int (b2i true), .int (b2i false)]) (rest := []) ⟨hx, hb, hml, hown, hts⟩ (c_X1_throwing l D k0 kv ko ks km kt kp kb cZ cD cI th mv io sz mk se pv pd op mw hsz s.heap.size false true false ) (cwV 3 hts gX1_highest_X1_throwing rfl rfl rfl (by decide +kernel) ⟨Nat.le_of_ble_eq_true rfl, Nat.le_of_ble_eq_true rfl⟩) ⟨fun a U g mk q => ⟨q.1, q.2.1, q.2.2.1, va_K.moved (u := U) (U := U.calling g mk a) (Vm.Alike.refl U.vm) q.2.2.2.1, q.2.2.2.2⟩, va_recv hK hP (ci := 2) (q0 := 0) rfl rfl, fun U hU hW => ⟨rfl, by rw [hU], by rw [hU]; exact hP, va_K.moved hW.alike hK, hD.weaken (fun _ _ _ _ => trivial)⟩⟩ rfl rfl hl.1 rfl (lv_room (Nat.le_of_ble_eq_true rfl)) dX1_highest_35 ⟨Nat.le_of_ble_eq_true rfl, Nat.le_of_ble_eq_true rfl⟩) hS hFc (fun r_3 H locs hr_3 hP _ _ hS => ?_)
  subst hr_3
  refine kt_i (y := b2i true) rfl ?_
  have hD : va_D A (WM k0 kv ko ks km kt kp kb cZ cD cI (thr false true false) mv io sz mk se pv pd op mw) := va_D_same (ws := WM k0 kv ko ks km kt kp kb cZ cD cI th mv io sz mk se pv pd op mw) rfl hD
  have hP : va_P D vwCl (WM k0 kv ko ks km kt kp kb cZ cD cI (thr false true false) mv io sz mk se pv pd op mw) H := hP
  refine kb_eq (tgt := 43) hx hb dX1_highest_38 (by decide) (fun h => absurd h (by decide)) (fun _ => ?_)
  refine lv_dconst0 hx hb dX1_highest_41 ?_
  refine W.widen (k := 0) (n := 0) (Nat.le_of_ble_eq_true rfl) (Nat.le_of_ble_eq_true rfl) ?_
  exact W.dret (v := FP.dconst0) hx hb hr (fun t9 ht9 hW9 => ⟨⟨_, rfl, rfl, by rw [ht9]; exact hP⟩, hS.F ht9⟩) hS.2.2 dX1_highest_42
set_option maxHeartbeats 4000000 in
set_option maxRecDepth 100000 in
theorem c_X1_calmest (l : Launch) (D : va_G) (k0 kv ko ks km kt kp kb : Nat) (cZ cD cI : ClassId) (th : Nat) (mv : Nat → UInt64) (io : Nat → Bool) (sz : Nat → Nat) (mk : Nat → UInt64) (se : Nat → Bool) (pv : Nat → UInt64) (pd : Nat → Bool) (op : Bool) (mw : Int32) (hsz : ∀ j, sz j ≤ 12) (zz : Nat) (g : Nat) (pp : Nat) (hg : g < 6) (hpp : bo io mv (2 * g + 1) 1 (sz (2 * g + 1)) = some pp) (hnn : vf_n32 (FP.d2f (mv pp))) : Met l yX1_calmest wsX1_calmest ({ frames := 2, cells := 0, slots := 0, locals := 49 }) (va_Pc [.ref k0, .int (nI g)] (fun U => U.heap.size = zz ∧ va_P D vwCl (WM k0 kv ko ks km kt kp kb cZ cD cI th mv io sz mk se pv pd op mw) U.heap ∧ va_K D vwCl (TY cZ cD cI) U ∧ va_D (fun _ => True) (WM k0 kv ko ks km kt kp kb cZ cD cI th mv io sz mk se pv pd op mw))) (wr_Qf (fun r => r = FP.d2f (mv pp)) (fun H => va_P D vwCl (WM k0 kv ko ks km kt kp kb cZ cD cI (thr false false false) mv io sz mk se pv pd op mw) H) (va_A (WM k0 kv ko ks km kt kp kb cZ cD cI th mv io sz mk se pv pd op mw) zz))  0 0 (va_A (WM k0 kv ko ks km kt kp kb cZ cD cI th mv io sz mk se pv pd op mw) zz) := by
  refine Met.ofW (cc := cX1_calmest) (maxL := 4) (ret := some .float) (by decide) rfl ?_
  intro p e s m args below meth c s₁ B hml hv
  obtain ⟨rfl, hsz_, hP, hK, hD0⟩ := hv
  have hx := B.exec
  have hb := B.bytes
  have hr := B.returns
  have hts := atoms_spec (ws := wsX1_calmest) B.pre
  have hown : s.vm.findClass RX1 = some m.cls := findClass_of_methodNamed B.named
  have hlocks := B.notSynchronized
  subst hsz_
  have hD := hD0.self (sz := s.heap.size)
  generalize hAe : va_A (WM k0 kv ko ks km kt kp kb cZ cD cI th mv io sz mk se pv pd op mw) s.heap.size = A at hD ⊢
  have hA : ∀ q : Nat, s.heap.size ≤ q → A q := fun q h => by rw [← hAe]; exact Or.inr h
  have hS : va_S A s.heap s.heap [] := va_S.rf
  have hl := lv_entry ([.ref k0, .int (nI g)]) (n := 4) (Nat.le_of_ble_eq_true rfl)
  rw [lg_entry_eq]
  generalize (lg_sl ([.ref k0, .int (nI g)]) ++ List.replicate (4 - (lg_sl ([.ref k0, .int (nI g)])).length) Slot.unset).toArray = ls at hl ⊢
  have hl : lv_has ls 4 [(0, .ref k0), (1, .int (nI g))] := hl
  have hinRX1 : ∀ w ∈ wsX10, w ∈ wsX1_calmest := by decide +kernel
  have hf_7 := hts (.fieldLink RX1 7 "HarbourBoardModel" "value" "[D") (by decide +kernel)
  have h1 := hsz (2 * g + 1)
  have h2 := bo_lt hpp
  refine lv_iload_n hx hb dX1_calmest_0 rfl (lv_at hl 1 rfl) ?_
  refine lv_iconst (v := nI 5) hx hb dX1_calmest_1 (by decide) ?_
  refine rd_calli (va_runS (As := [.int (nI g), .int (nI 5)]) (rest := []) ⟨hx, hb, hml, hown, hts⟩ (c_X1_inside l g 5 (by omega) (by omega)) (va_cwS 2 hts gX1_calmest_X1_outside rfl rfl rfl (by decide +kernel) ⟨Nat.le_of_ble_eq_true rfl, Nat.le_of_ble_eq_true rfl⟩) ⟨fun a U g mk q => q, fun U hU hW => ⟨rfl, trivial⟩⟩ rfl rfl hl.1 rfl (lv_room (Nat.le_of_ble_eq_true rfl)) dX1_calmest_2 ⟨Nat.le_of_ble_eq_true rfl, Nat.le_of_ble_eq_true rfl⟩) (fun r_1 hr_1 => ?_)
  subst hr_1
  refine lv_istore_n (lv' := [(2, .int (b2i false)), (0, .ref k0), (1, .int (nI g))]) hx hb dX1_calmest_5 rfl hl (by decide) rfl (fun ls hl => ?_)
  refine lv_iload_n hx hb dX1_calmest_6 rfl (lv_at hl 0 rfl) ?_
  refine kb_eq (tgt := 14) hx hb dX1_calmest_7 (by decide) (fun _ => ?_) (fun h => absurd h (by decide))
  refine lv_aload_n hx hb dX1_calmest_14 rfl (lv_at hl 1 rfl) ?_
  refine lv_iconst (v := nI 2) hx hb dX1_calmest_15 (by decide) ?_
  refine lv_iload_n hx hb dX1_calmest_16 rfl (lv_at hl 2 rfl) ?_
  refine kn_imul hx hb dX1_calmest_17 ?_
  refine lv_iconst (v := nI 1) hx hb dX1_calmest_18 (by decide) ?_
  refine kn_iadd hx hb dX1_calmest_19 ?_
  refine lv_iconst (v := nI 1) hx hb dX1_calmest_20 (by decide) ?_
  refine rd_calli (va_runV (As := [.int (nI ((2 * g) + 1)), .int (nI 1)]) (rest := []) ⟨hx, hb, hml, hown, hts⟩ (c_X1_best l D k0 kv ko ks km kt kp kb cZ cD cI th mv io sz mk se pv pd op mw hsz ((2 * g) + 1) 1 (by omega) (by decide)) (cwV 2 hts gX1_calmest_X1_best rfl rfl rfl (by decide +kernel) ⟨Nat.le_of_ble_eq_true rfl, Nat.le_of_ble_eq_true rfl⟩) ⟨fun a U g mk q => ⟨q.1, q.2.1, va_K.moved (u := U) (U := U.calling g mk a) (Vm.Alike.refl U.vm) q.2.2⟩, va_recv hK hP (ci := 2) (q0 := 0) rfl rfl, fun U hU hW => ⟨rfl, by rw [hU]; exact hP, va_K.moved hW.alike hK⟩⟩ rfl rfl hl.1 rfl (lv_room (Nat.le_of_ble_eq_true rfl)) dX1_calmest_21 ⟨Nat.le_of_ble_eq_true rfl, Nat.le_of_ble_eq_true rfl⟩) (fun r_2 hr_2 => ?_)
  subst hr_2
  refine kt_i (y := nI pp) (by rw [hpp]; rfl) ?_
  refine lv_istore_n (lv' := [(3, .int (nI pp)), (2, .int (b2i false)), (0, .ref k0), (1, .int (nI g))]) hx hb dX1_calmest_24 rfl hl (by decide) rfl (fun ls hl => ?_)
  refine lv_aload_n hx hb dX1_calmest_25 rfl (lv_at hl 2 rfl) ?_
  refine lv_iload_n hx hb dX1_calmest_26 rfl (lv_at hl 1 rfl) ?_
  refine lv_iload_n hx hb dX1_calmest_27 rfl (lv_at hl 0 rfl) ?_
  refine kn_ifge (tgt := 35) hx hb (by omega) dX1_calmest_28 (by decide) ?_
  refine lv_iconst (v := nI 0) hx hb dX1_calmest_35 (by decide) ?_
  refine lv_iconst (v := nI 0) hx hb dX1_calmest_36 (by decide) ?_
  have hFc := va_free (wc := WM k0 kv ko ks km kt kp kb cZ cD cI th mv io sz mk se pv pd op mw) hD hS hA [0, 1, 2, 3, 4, 5, 6, 7] rfl
  refine wr_calli (va_runV (As := [.int (b2i false), .int (b2i false), .int (b2i false)]) (rest := []) ⟨hx, hb, hml, hown, hts⟩ (c_X1_throwing l D k0 kv ko ks km kt kp kb cZ cD cI th mv io sz mk se pv pd op mw hsz s.heap.size false false false ) (cwV 3 hts gX1_calmest_X1_throwing rfl rfl rfl (by decide +kernel) ⟨Nat.le_of_ble_eq_true rfl, Nat.le_of_ble_eq_true rfl⟩) ⟨fun a U g mk q => ⟨q.1, q.2.1, q.2.2.1, va_K.moved (u := U) (U := U.calling g mk a) (Vm.Alike.refl U.vm) q.2.2.2.1, q.2.2.2.2⟩, va_recv hK hP (ci := 2) (q0 := 0) rfl rfl, fun U hU hW => ⟨rfl, by rw [hU], by rw [hU]; exact hP, va_K.moved hW.alike hK, hD.weaken (fun _ _ _ _ => trivial)⟩⟩ rfl rfl hl.1 rfl (lv_room (Nat.le_of_ble_eq_true rfl)) dX1_calmest_37 ⟨Nat.le_of_ble_eq_true rfl, Nat.le_of_ble_eq_true rfl⟩) hS hFc (fun r_3 H locs hr_3 hP _ _ hS => ?_)
  subst hr_3
  refine kt_i (y := b2i false) rfl ?_
  have hD : va_D A (WM k0 kv ko ks km kt kp kb cZ cD cI (thr false false false) mv io sz mk se pv pd op mw) := va_D_same (ws := WM k0 kv ko ks km kt kp kb cZ cD cI th mv io sz mk se pv pd op mw) rfl hD
  have hP : va_P D vwCl (WM k0 kv ko ks km kt kp kb cZ cD cI (thr false false false) mv io sz mk se pv pd op mw) H := hP
  refine kb_eq (tgt := 45) hx hb dX1_calmest_40 (by decide) (fun _ => ?_) (fun h => absurd h (by decide))
  refine lv_aload_n hx hb dX1_calmest_45 rfl (lv_at hl 2 rfl) ?_
  refine va_get (D := D) (ci := 2) (v := .ref kv) (C := RX1) (T := TX1) (N := 10) hx hb hts hinRX1 hown hK hP 0 rfl rfl 1 (by decide) hf_7 (fun _ h9 => h9) rfl dX1_calmest_46 ?_
  refine lv_iload_n hx hb dX1_calmest_49 rfl (lv_at hl 0 rfl) ?_
  refine kn_dald hx hb hK hP 1 1 rfl rfl (by omega) (by decide) dX1_calmest_50 ?_
  refine lv_d2f hx hb dX1_calmest_51 hnn ?_
  refine W.widen (k := 0) (n := 0) (Nat.le_of_ble_eq_true rfl) (Nat.le_of_ble_eq_true rfl) ?_
  exact W.fret (v := FP.d2f (mv pp)) hx hb hr (fun t9 ht9 hW9 => ⟨⟨_, rfl, rfl, by rw [ht9]; exact hP⟩, hS.F ht9⟩) hS.2.2 dX1_calmest_52
set_option maxHeartbeats 4000000 in
set_option maxRecDepth 100000 in
theorem c_X1_calmest_none (l : Launch) (D : va_G) (k0 kv ko ks km kt kp kb : Nat) (cZ cD cI : ClassId) (th : Nat) (mv : Nat → UInt64) (io : Nat → Bool) (sz : Nat → Nat) (mk : Nat → UInt64) (se : Nat → Bool) (pv : Nat → UInt64) (pd : Nat → Bool) (op : Bool) (mw : Int32) (hsz : ∀ j, sz j ≤ 12) (zz : Nat) (g : Nat) (hg : g < 6) (hpp : bo io mv (2 * g + 1) 1 (sz (2 * g + 1)) = none) : Met l yX1_calmest wsX1_calmest ({ frames := 2, cells := 0, slots := 0, locals := 49 }) (va_Pc [.ref k0, .int (nI g)] (fun U => U.heap.size = zz ∧ va_P D vwCl (WM k0 kv ko ks km kt kp kb cZ cD cI th mv io sz mk se pv pd op mw) U.heap ∧ va_K D vwCl (TY cZ cD cI) U ∧ va_D (fun _ => True) (WM k0 kv ko ks km kt kp kb cZ cD cI th mv io sz mk se pv pd op mw))) (wr_Qf (fun r => r = FP.fconst0) (fun H => va_P D vwCl (WM k0 kv ko ks km kt kp kb cZ cD cI (thr false true false) mv io sz mk se pv pd op mw) H) (va_A (WM k0 kv ko ks km kt kp kb cZ cD cI th mv io sz mk se pv pd op mw) zz))  0 0 (va_A (WM k0 kv ko ks km kt kp kb cZ cD cI th mv io sz mk se pv pd op mw) zz) := by
  refine Met.ofW (cc := cX1_calmest) (maxL := 4) (ret := some .float) (by decide) rfl ?_
  intro p e s m args below meth c s₁ B hml hv
  obtain ⟨rfl, hsz_, hP, hK, hD0⟩ := hv
  have hx := B.exec
  have hb := B.bytes
  have hr := B.returns
  have hts := atoms_spec (ws := wsX1_calmest) B.pre
  have hown : s.vm.findClass RX1 = some m.cls := findClass_of_methodNamed B.named
  have hlocks := B.notSynchronized
  subst hsz_
  have hD := hD0.self (sz := s.heap.size)
  generalize hAe : va_A (WM k0 kv ko ks km kt kp kb cZ cD cI th mv io sz mk se pv pd op mw) s.heap.size = A at hD ⊢
  have hA : ∀ q : Nat, s.heap.size ≤ q → A q := fun q h => by rw [← hAe]; exact Or.inr h
  have hS : va_S A s.heap s.heap [] := va_S.rf
  have hl := lv_entry ([.ref k0, .int (nI g)]) (n := 4) (Nat.le_of_ble_eq_true rfl)
  rw [lg_entry_eq]
  generalize (lg_sl ([.ref k0, .int (nI g)]) ++ List.replicate (4 - (lg_sl ([.ref k0, .int (nI g)])).length) Slot.unset).toArray = ls at hl ⊢
  have hl : lv_has ls 4 [(0, .ref k0), (1, .int (nI g))] := hl
  refine lv_iload_n hx hb dX1_calmest_0 rfl (lv_at hl 1 rfl) ?_
  refine lv_iconst (v := nI 5) hx hb dX1_calmest_1 (by decide) ?_
  refine rd_calli (va_runS (As := [.int (nI g), .int (nI 5)]) (rest := []) ⟨hx, hb, hml, hown, hts⟩ (c_X1_inside l g 5 (by omega) (by omega)) (va_cwS 2 hts gX1_calmest_X1_outside rfl rfl rfl (by decide +kernel) ⟨Nat.le_of_ble_eq_true rfl, Nat.le_of_ble_eq_true rfl⟩) ⟨fun a U g mk q => q, fun U hU hW => ⟨rfl, trivial⟩⟩ rfl rfl hl.1 rfl (lv_room (Nat.le_of_ble_eq_true rfl)) dX1_calmest_2 ⟨Nat.le_of_ble_eq_true rfl, Nat.le_of_ble_eq_true rfl⟩) (fun r_1 hr_1 => ?_)
  subst hr_1
  refine lv_istore_n (lv' := [(2, .int (b2i false)), (0, .ref k0), (1, .int (nI g))]) hx hb dX1_calmest_5 rfl hl (by decide) rfl (fun ls hl => ?_)
  refine lv_iload_n hx hb dX1_calmest_6 rfl (lv_at hl 0 rfl) ?_
  refine kb_eq (tgt := 14) hx hb dX1_calmest_7 (by decide) (fun _ => ?_) (fun h => absurd h (by decide))
  refine lv_aload_n hx hb dX1_calmest_14 rfl (lv_at hl 1 rfl) ?_
  refine lv_iconst (v := nI 2) hx hb dX1_calmest_15 (by decide) ?_
  refine lv_iload_n hx hb dX1_calmest_16 rfl (lv_at hl 2 rfl) ?_
  refine kn_imul hx hb dX1_calmest_17 ?_
  refine lv_iconst (v := nI 1) hx hb dX1_calmest_18 (by decide) ?_
  refine kn_iadd hx hb dX1_calmest_19 ?_
  refine lv_iconst (v := nI 1) hx hb dX1_calmest_20 (by decide) ?_
  refine rd_calli (va_runV (As := [.int (nI ((2 * g) + 1)), .int (nI 1)]) (rest := []) ⟨hx, hb, hml, hown, hts⟩ (c_X1_best l D k0 kv ko ks km kt kp kb cZ cD cI th mv io sz mk se pv pd op mw hsz ((2 * g) + 1) 1 (by omega) (by decide)) (cwV 2 hts gX1_calmest_X1_best rfl rfl rfl (by decide +kernel) ⟨Nat.le_of_ble_eq_true rfl, Nat.le_of_ble_eq_true rfl⟩) ⟨fun a U g mk q => ⟨q.1, q.2.1, va_K.moved (u := U) (U := U.calling g mk a) (Vm.Alike.refl U.vm) q.2.2⟩, va_recv hK hP (ci := 2) (q0 := 0) rfl rfl, fun U hU hW => ⟨rfl, by rw [hU]; exact hP, va_K.moved hW.alike hK⟩⟩ rfl rfl hl.1 rfl (lv_room (Nat.le_of_ble_eq_true rfl)) dX1_calmest_21 ⟨Nat.le_of_ble_eq_true rfl, Nat.le_of_ble_eq_true rfl⟩) (fun r_2 hr_2 => ?_)
  subst hr_2
  refine kt_i (y := (-1)) (by rw [hpp]; rfl) ?_
  refine lv_istore_n (lv' := [(3, .int ((-1))), (2, .int (b2i false)), (0, .ref k0), (1, .int (nI g))]) hx hb dX1_calmest_24 rfl hl (by decide) rfl (fun ls hl => ?_)
  refine lv_aload_n hx hb dX1_calmest_25 rfl (lv_at hl 2 rfl) ?_
  refine lv_iload_n hx hb dX1_calmest_26 rfl (lv_at hl 1 rfl) ?_
  refine lv_iload_n hx hb dX1_calmest_27 rfl (lv_at hl 0 rfl) ?_
  refine lv_if_ge (tgt := 35) hx hb dX1_calmest_28 (by decide) (fun h => absurd h (by decide)) (fun c_x => ?_)
  refine lv_iconst (v := nI 1) hx hb dX1_calmest_31 (by decide) ?_
  refine lv_goto (tgt := 36) hx hb dX1_calmest_32 (by decide) ?_
  refine lv_iconst (v := nI 0) hx hb dX1_calmest_36 (by decide) ?_
  have hFc := va_free (wc := WM k0 kv ko ks km kt kp kb cZ cD cI th mv io sz mk se pv pd op mw) hD hS hA [0, 1, 2, 3, 4, 5, 6, 7] rfl
  refine wr_calli (va_runV (As := [.int (b2i false), .int (b2i true), .int (b2i false)]) (rest := []) ⟨hx, hb, hml, hown, hts⟩ (c_X1_throwing l D k0 kv ko ks km kt kp kb cZ cD cI th mv io sz mk se pv pd op mw hsz s.heap.size false true false ) (cwV 3 hts gX1_calmest_X1_throwing rfl rfl rfl (by decide +kernel) ⟨Nat.le_of_ble_eq_true rfl, Nat.le_of_ble_eq_true rfl⟩) ⟨fun a U g mk q => ⟨q.1, q.2.1, q.2.2.1, va_K.moved (u := U) (U := U.calling g mk a) (Vm.Alike.refl U.vm) q.2.2.2.1, q.2.2.2.2⟩, va_recv hK hP (ci := 2) (q0 := 0) rfl rfl, fun U hU hW => ⟨rfl, by rw [hU], by rw [hU]; exact hP, va_K.moved hW.alike hK, hD.weaken (fun _ _ _ _ => trivial)⟩⟩ rfl rfl hl.1 rfl (lv_room (Nat.le_of_ble_eq_true rfl)) dX1_calmest_37 ⟨Nat.le_of_ble_eq_true rfl, Nat.le_of_ble_eq_true rfl⟩) hS hFc (fun r_3 H locs hr_3 hP _ _ hS => ?_)
  subst hr_3
  refine kt_i (y := b2i true) rfl ?_
  have hD : va_D A (WM k0 kv ko ks km kt kp kb cZ cD cI (thr false true false) mv io sz mk se pv pd op mw) := va_D_same (ws := WM k0 kv ko ks km kt kp kb cZ cD cI th mv io sz mk se pv pd op mw) rfl hD
  have hP : va_P D vwCl (WM k0 kv ko ks km kt kp kb cZ cD cI (thr false true false) mv io sz mk se pv pd op mw) H := hP
  refine kb_eq (tgt := 45) hx hb dX1_calmest_40 (by decide) (fun h => absurd h (by decide)) (fun _ => ?_)
  refine lv_fconst0 hx hb dX1_calmest_43 ?_
  refine W.widen (k := 0) (n := 0) (Nat.le_of_ble_eq_true rfl) (Nat.le_of_ble_eq_true rfl) ?_
  exact W.fret (v := FP.fconst0) hx hb hr (fun t9 ht9 hW9 => ⟨⟨_, rfl, rfl, by rw [ht9]; exact hP⟩, hS.F ht9⟩) hS.2.2 dX1_calmest_44
set_option maxHeartbeats 4000000 in
set_option maxRecDepth 100000 in
theorem c_X1_same (l : Launch) (D : va_G) (k0 kv ko ks km kt kp kb : Nat) (cZ cD cI : ClassId) (th : Nat) (mv : Nat → UInt64) (io : Nat → Bool) (sz : Nat → Nat) (mk : Nat → UInt64) (se : Nat → Bool) (pv : Nat → UInt64) (pd : Nat → Bool) (op : Bool) (mw : Int32) (hsz : ∀ j, sz j ≤ 12) (zz : Nat) (g : Nat) (h : Nat) (hg : g < 6) (hh : h < 6) : Met l yX1_same wsX1_same ({ frames := 1, cells := 0, slots := 0, locals := 24 }) (va_Pc [.ref k0, .int (nI g), .int (nI h)] (fun U => U.heap.size = zz ∧ va_P D vwCl (WM k0 kv ko ks km kt kp kb cZ cD cI th mv io sz mk se pv pd op mw) U.heap ∧ va_K D vwCl (TY cZ cD cI) U ∧ va_D (fun _ => True) (WM k0 kv ko ks km kt kp kb cZ cD cI th mv io sz mk se pv pd op mw))) (wr_Qi (fun r => r = nI (if sz (2 * g) = sz (2 * h) then sM io mv g h (sz (2 * g)) else 0)) (fun H => va_P D vwCl (WM k0 kv ko ks km kt kp kb cZ cD cI (thr false false false) mv io sz mk se pv pd op mw) H) (va_A (WM k0 kv ko ks km kt kp kb cZ cD cI th mv io sz mk se pv pd op mw) zz))  0 0 (va_A (WM k0 kv ko ks km kt kp kb cZ cD cI th mv io sz mk se pv pd op mw) zz) := by
  refine Met.ofW (cc := cX1_same) (maxL := 9) (ret := some .int) (by decide) rfl ?_
  intro p e s m args below meth c s₁ B hml hv
  obtain ⟨rfl, hsz_, hP, hK, hD0⟩ := hv
  have hx := B.exec
  have hb := B.bytes
  have hr := B.returns
  have hts := atoms_spec (ws := wsX1_same) B.pre
  have hown : s.vm.findClass RX1 = some m.cls := findClass_of_methodNamed B.named
  have hlocks := B.notSynchronized
  subst hsz_
  have hD := hD0.self (sz := s.heap.size)
  generalize hAe : va_A (WM k0 kv ko ks km kt kp kb cZ cD cI th mv io sz mk se pv pd op mw) s.heap.size = A at hD ⊢
  have hA : ∀ q : Nat, s.heap.size ≤ q → A q := fun q h => by rw [← hAe]; exact Or.inr h
  have hS : va_S A s.heap s.heap [] := va_S.rf
  have hl := lv_entry ([.ref k0, .int (nI g), .int (nI h)]) (n := 9) (Nat.le_of_ble_eq_true rfl)
  rw [lg_entry_eq]
  generalize (lg_sl ([.ref k0, .int (nI g), .int (nI h)]) ++ List.replicate (9 - (lg_sl ([.ref k0, .int (nI g), .int (nI h)])).length) Slot.unset).toArray = ls at hl ⊢
  have hl : lv_has ls 9 [(0, .ref k0), (1, .int (nI g)), (2, .int (nI h))] := hl
  have hinRX1 : ∀ w ∈ wsX10, w ∈ wsX1_same := by decide +kernel
  have hf_17 := hts (.fieldLink RX1 17 "HarbourBoardModel" "sizes" "[I") (by decide +kernel)
  have hf_13 := hts (.fieldLink RX1 13 "HarbourBoardModel" "isOut" "[Z") (by decide +kernel)
  have hf_7 := hts (.fieldLink RX1 7 "HarbourBoardModel" "value" "[D") (by decide +kernel)
  have h1 := hsz (2 * g)
  have h2 := hsz (2 * h)
  refine lv_aload_n hx hb dX1_same_0 rfl (lv_at hl 0 rfl) ?_
  refine lv_iload_n hx hb dX1_same_1 rfl (lv_at hl 1 rfl) ?_
  refine lv_iconst (v := nI 5) hx hb dX1_same_2 (by decide) ?_
  refine rd_calli (va_runS (As := [.int (nI g), .int (nI 5)]) (rest := [.ref k0]) ⟨hx, hb, hml, hown, hts⟩ (c_X1_inside l g 5 (by omega) (by omega)) (va_cwS 2 hts gX1_same_X1_outside rfl rfl rfl (by decide +kernel) ⟨Nat.le_of_ble_eq_true rfl, Nat.le_of_ble_eq_true rfl⟩) ⟨fun a U g mk q => q, fun U hU hW => ⟨rfl, trivial⟩⟩ rfl rfl hl.1 rfl (lv_room (Nat.le_of_ble_eq_true rfl)) dX1_same_3 ⟨Nat.le_of_ble_eq_true rfl, Nat.le_of_ble_eq_true rfl⟩) (fun r_1 hr_1 => ?_)
  subst hr_1
  refine kb_ne (tgt := 17) hx hb dX1_same_6 (by decide) (fun h => absurd h (by decide)) (fun _ => ?_)
  refine lv_iload_n hx hb dX1_same_9 rfl (lv_at hl 2 rfl) ?_
  refine lv_iconst (v := nI 5) hx hb dX1_same_10 (by decide) ?_
  refine rd_calli (va_runS (As := [.int (nI h), .int (nI 5)]) (rest := [.ref k0]) ⟨hx, hb, hml, hown, hts⟩ (c_X1_inside l h 5 (by omega) (by omega)) (va_cwS 2 hts gX1_same_X1_outside rfl rfl rfl (by decide +kernel) ⟨Nat.le_of_ble_eq_true rfl, Nat.le_of_ble_eq_true rfl⟩) ⟨fun a U g mk q => q, fun U hU hW => ⟨rfl, trivial⟩⟩ rfl rfl hl.1 rfl (lv_room (Nat.le_of_ble_eq_true rfl)) dX1_same_11 ⟨Nat.le_of_ble_eq_true rfl, Nat.le_of_ble_eq_true rfl⟩) (fun r_2 hr_2 => ?_)
  subst hr_2
  refine kb_eq (tgt := 21) hx hb dX1_same_14 (by decide) (fun _ => ?_) (fun h => absurd h (by decide))
  refine lv_iconst (v := nI 0) hx hb dX1_same_21 (by decide) ?_
  refine lv_iconst (v := nI 0) hx hb dX1_same_22 (by decide) ?_
  refine lv_iconst (v := nI 0) hx hb dX1_same_23 (by decide) ?_
  have hFc := va_free (wc := WM k0 kv ko ks km kt kp kb cZ cD cI th mv io sz mk se pv pd op mw) hD hS hA [0, 1, 2, 3, 4, 5, 6, 7] rfl
  refine wr_calli (va_runV (As := [.int (b2i false), .int (b2i false), .int (b2i false)]) (rest := []) ⟨hx, hb, hml, hown, hts⟩ (c_X1_throwing l D k0 kv ko ks km kt kp kb cZ cD cI th mv io sz mk se pv pd op mw hsz s.heap.size false false false ) (cwV 3 hts gX1_same_X1_throwing rfl rfl rfl (by decide +kernel) ⟨Nat.le_of_ble_eq_true rfl, Nat.le_of_ble_eq_true rfl⟩) ⟨fun a U g mk q => ⟨q.1, q.2.1, q.2.2.1, va_K.moved (u := U) (U := U.calling g mk a) (Vm.Alike.refl U.vm) q.2.2.2.1, q.2.2.2.2⟩, va_recv hK hP (ci := 2) (q0 := 0) rfl rfl, fun U hU hW => ⟨rfl, by rw [hU], by rw [hU]; exact hP, va_K.moved hW.alike hK, hD.weaken (fun _ _ _ _ => trivial)⟩⟩ rfl rfl hl.1 rfl (lv_room (Nat.le_of_ble_eq_true rfl)) dX1_same_24 ⟨Nat.le_of_ble_eq_true rfl, Nat.le_of_ble_eq_true rfl⟩) hS hFc (fun r_3 H locs hr_3 hP _ _ hS => ?_)
  subst hr_3
  refine kt_i (y := b2i false) rfl ?_
  have hD : va_D A (WM k0 kv ko ks km kt kp kb cZ cD cI (thr false false false) mv io sz mk se pv pd op mw) := va_D_same (ws := WM k0 kv ko ks km kt kp kb cZ cD cI th mv io sz mk se pv pd op mw) rfl hD
  have hP : va_P D vwCl (WM k0 kv ko ks km kt kp kb cZ cD cI (thr false false false) mv io sz mk se pv pd op mw) H := hP
  refine kb_eq (tgt := 32) hx hb dX1_same_27 (by decide) (fun _ => ?_) (fun h => absurd h (by decide))
  refine lv_bipush (v := nI 24) hx hb dX1_same_32 (by decide) ?_
  refine lv_iload_n hx hb dX1_same_34 rfl (lv_at hl 1 rfl) ?_
  refine kn_imul hx hb dX1_same_35 ?_
  refine lv_istore_n (lv' := [(3, .int (nI (24 * g))), (0, .ref k0), (1, .int (nI g)), (2, .int (nI h))]) hx hb dX1_same_36 rfl hl (by decide) rfl (fun ls hl => ?_)
  refine lv_bipush (v := nI 24) hx hb dX1_same_37 (by decide) ?_
  refine lv_iload_n hx hb dX1_same_39 rfl (lv_at hl 3 rfl) ?_
  refine kn_imul hx hb dX1_same_40 ?_
  refine lv_istore (lv' := [(4, .int (nI (24 * h))), (3, .int (nI (24 * g))), (0, .ref k0), (1, .int (nI g)), (2, .int (nI h))]) hx hb dX1_same_41 hl (by decide) rfl (fun ls hl => ?_)
  refine lv_aload_n hx hb dX1_same_43 rfl (lv_at hl 2 rfl) ?_
  refine va_get (D := D) (ci := 2) (v := .ref ks) (C := RX1) (T := TX1) (N := 10) hx hb hts hinRX1 hown hK hP 0 rfl rfl 3 (by decide) hf_17 (fun _ h9 => h9) rfl dX1_same_44 ?_
  refine lv_iconst (v := nI 2) hx hb dX1_same_47 (by decide) ?_
  refine lv_iload_n hx hb dX1_same_48 rfl (lv_at hl 3 rfl) ?_
  refine kn_imul hx hb dX1_same_49 ?_
  refine kn_iald hx hb hK hP 3 2 rfl rfl (by omega) (by decide) dX1_same_50 ?_
  refine lv_aload_n hx hb dX1_same_51 rfl (lv_at hl 2 rfl) ?_
  refine va_get (D := D) (ci := 2) (v := .ref ks) (C := RX1) (T := TX1) (N := 10) hx hb hts hinRX1 hown hK hP 0 rfl rfl 3 (by decide) hf_17 (fun _ h9 => h9) rfl dX1_same_52 ?_
  refine lv_iconst (v := nI 2) hx hb dX1_same_55 (by decide) ?_
  refine lv_iload_n hx hb dX1_same_56 rfl (lv_at hl 4 rfl) ?_
  refine kn_imul hx hb dX1_same_57 ?_
  refine kn_iald hx hb hK hP 3 2 rfl rfl (by omega) (by decide) dX1_same_58 ?_
  refine kn_icmp_ne (tgt := 66) hx hb (by omega) (by omega) dX1_same_59 (by decide) (fun c_4 => ?_) (fun c_4 => ?_)
  · refine lv_iconst (v := nI 0) hx hb dX1_same_66 (by decide) ?_
    refine lv_istore (lv' := [(5, .int (nI 0)), (4, .int (nI (24 * h))), (3, .int (nI (24 * g))), (0, .ref k0), (1, .int (nI g)), (2, .int (nI h))]) hx hb dX1_same_67 hl (by decide) rfl (fun ls hl => ?_)
    refine lv_iconst (v := nI 0) hx hb dX1_same_69 (by decide) ?_
    refine lv_istore (lv' := [(6, .int (nI 0)), (5, .int (nI 0)), (4, .int (nI (24 * h))), (3, .int (nI (24 * g))), (0, .ref k0), (1, .int (nI g)), (2, .int (nI h))]) hx hb dX1_same_70 hl (by decide) rfl (fun ls hl => ?_)
    refine lv_iload hx hb dX1_same_72 (lv_at hl 0 rfl) ?_
    refine lv_aload_n hx hb dX1_same_74 rfl (lv_at hl 4 rfl) ?_
    refine va_get (D := D) (ci := 2) (v := .ref ks) (C := RX1) (T := TX1) (N := 10) hx hb hts hinRX1 hown hK hP 0 rfl rfl 3 (by decide) hf_17 (fun _ h9 => h9) rfl dX1_same_75 ?_
    refine lv_iconst (v := nI 2) hx hb dX1_same_78 (by decide) ?_
    refine lv_iload_n hx hb dX1_same_79 rfl (lv_at hl 5 rfl) ?_
    refine kn_imul hx hb dX1_same_80 ?_
    refine kn_iald hx hb hK hP 3 2 rfl rfl (by omega) (by decide) dX1_same_81 ?_
    refine kn_icmp_ge (tgt := 205) hx hb (by decide) (by omega) dX1_same_82 (by decide) (fun c_5 => ?_) (fun c_5 => ?_)
    · refine lv_iload hx hb dX1_same_205 (lv_at hl 1 rfl) ?_
      refine W.widen (k := 0) (n := 0) (Nat.le_of_ble_eq_true rfl) (Nat.le_of_ble_eq_true rfl) ?_
      exact W.iret (v := nI 0) hx hb hr (fun t9 ht9 hW9 => ⟨⟨_, rfl, congrArg nI (by rw [if_neg c_4]), by rw [ht9]; exact hP⟩, hS.F ht9⟩) hS.2.2 dX1_same_207
    · refine lv_iload hx hb dX1_same_85 (lv_at hl 1 rfl) ?_
      refine kn_ifle (tgt := 205) hx hb (by decide) dX1_same_87 (by decide) (fun _ => ?_) (fun h => absurd h (by decide))
      refine lv_iload hx hb dX1_same_205 (lv_at hl 1 rfl) ?_
      refine W.widen (k := 0) (n := 0) (Nat.le_of_ble_eq_true rfl) (Nat.le_of_ble_eq_true rfl) ?_
      exact W.iret (v := nI 0) hx hb hr (fun t9 ht9 hW9 => ⟨⟨_, rfl, congrArg nI (by rw [if_neg c_4]), by rw [ht9]; exact hP⟩, hS.F ht9⟩) hS.2.2 dX1_same_207
  · refine lv_iconst (v := nI 2) hx hb dX1_same_62 (by decide) ?_
    refine lv_goto (tgt := 67) hx hb dX1_same_63 (by decide) ?_
    refine lv_istore (lv' := [(5, .int (nI 2)), (4, .int (nI (24 * h))), (3, .int (nI (24 * g))), (0, .ref k0), (1, .int (nI g)), (2, .int (nI h))]) hx hb dX1_same_67 hl (by decide) rfl (fun ls hl => ?_)
    refine lv_iconst (v := nI 0) hx hb dX1_same_69 (by decide) ?_
    refine lv_istore (lv' := [(6, .int (nI 0)), (5, .int (nI 2)), (4, .int (nI (24 * h))), (3, .int (nI (24 * g))), (0, .ref k0), (1, .int (nI g)), (2, .int (nI h))]) hx hb dX1_same_70 hl (by decide) rfl (fun ls hl => ?_)
    refine (?_ : ∀ (k_ i : Nat) (ls : Array Slot), i + k_ = sz (2 * g) → lv_has ls 9 [(0, .ref k0), (1, .int (nI g)), (2, .int (nI h)), (3, .int (nI (24 * g))), (4, .int (nI (24 * h))), (5, .int (nI (sM io mv g h i))), (6, .int (nI i))] → W p l e _ s m _ below meth c _ _ _ _ _ (F0 m 72 ls [])) (sz (2 * g)) 0 ls (by omega) (lv_sub hl [4, 5, 6, 3, 2, 1, 0] rfl)
    clear hl
    intro k_
    induction k_ with
    | zero =>
      intro i ls hi hl
      refine lv_iload hx hb dX1_same_72 (lv_at hl 6 rfl) ?_
      refine lv_aload_n hx hb dX1_same_74 rfl (lv_at hl 0 rfl) ?_
      refine va_get (D := D) (ci := 2) (v := .ref ks) (C := RX1) (T := TX1) (N := 10) hx hb hts hinRX1 hown hK hP 0 rfl rfl 3 (by decide) hf_17 (fun _ h9 => h9) rfl dX1_same_75 ?_
      refine lv_iconst (v := nI 2) hx hb dX1_same_78 (by decide) ?_
      refine lv_iload_n hx hb dX1_same_79 rfl (lv_at hl 1 rfl) ?_
      refine kn_imul hx hb dX1_same_80 ?_
      refine kn_iald hx hb hK hP 3 2 rfl rfl (by omega) (by decide) dX1_same_81 ?_
      refine kn_icmp_ge (tgt := 205) hx hb (by omega) (by omega) dX1_same_82 (by decide) (fun c_x => ?_) (fun h => absurd h (by omega))
      refine lv_iload hx hb dX1_same_205 (lv_at hl 5 rfl) ?_
      refine W.widen (k := 0) (n := 0) (Nat.le_of_ble_eq_true rfl) (Nat.le_of_ble_eq_true rfl) ?_
      exact W.iret (v := nI (sM io mv g h i)) hx hb hr (fun t9 ht9 hW9 => ⟨⟨_, rfl, congrArg nI (by rw [if_pos c_4, show i = sz (2 * g) by omega]), by rw [ht9]; exact hP⟩, hS.F ht9⟩) hS.2.2 dX1_same_207
    | succ k_ ih =>
      intro i ls hi hl
      refine lv_iload hx hb dX1_same_72 (lv_at hl 6 rfl) ?_
      refine lv_aload_n hx hb dX1_same_74 rfl (lv_at hl 0 rfl) ?_
      refine va_get (D := D) (ci := 2) (v := .ref ks) (C := RX1) (T := TX1) (N := 10) hx hb hts hinRX1 hown hK hP 0 rfl rfl 3 (by decide) hf_17 (fun _ h9 => h9) rfl dX1_same_75 ?_
      refine lv_iconst (v := nI 2) hx hb dX1_same_78 (by decide) ?_
      refine lv_iload_n hx hb dX1_same_79 rfl (lv_at hl 1 rfl) ?_
      refine kn_imul hx hb dX1_same_80 ?_
      refine kn_iald hx hb hK hP 3 2 rfl rfl (by omega) (by decide) dX1_same_81 ?_
      refine kn_icmp_ge (tgt := 205) hx hb (by omega) (by omega) dX1_same_82 (by decide) (fun h => absurd h (by omega)) (fun c_x => ?_)
      refine lv_iload hx hb dX1_same_85 (lv_at hl 5 rfl) ?_
      refine kn_ifle (tgt := 205) hx hb (by have := sM_le io mv g h i; omega) dX1_same_87 (by decide) (fun c_7 => ?_) (fun c_7 => ?_)
      · refine lv_iload hx hb dX1_same_205 (lv_at hl 5 rfl) ?_
        refine W.widen (k := 0) (n := 0) (Nat.le_of_ble_eq_true rfl) (Nat.le_of_ble_eq_true rfl) ?_
        exact W.iret (v := nI (sM io mv g h i)) hx hb hr (fun t9 ht9 hW9 => ⟨⟨_, rfl, congrArg nI (by rw [if_pos c_4, sM_stay c_7 (show i ≤ sz (2 * g) by omega), c_7]), by rw [ht9]; exact hP⟩, hS.F ht9⟩) hS.2.2 dX1_same_207
      · refine lv_aload_n hx hb dX1_same_90 rfl (lv_at hl 0 rfl) ?_
        refine va_get (D := D) (ci := 2) (v := .ref ko) (C := RX1) (T := TX1) (N := 10) hx hb hts hinRX1 hown hK hP 0 rfl rfl 2 (by decide) hf_13 (fun _ h9 => h9) rfl dX1_same_91 ?_
        refine lv_iload_n hx hb dX1_same_94 rfl (lv_at hl 3 rfl) ?_
        refine lv_iload hx hb dX1_same_95 (lv_at hl 6 rfl) ?_
        refine kn_iadd hx hb dX1_same_97 ?_
        refine kn_zald hx hb hK hP 2 0 rfl rfl (by omega) (by decide) dX1_same_98 ?_
        refine kb_eq (tgt := 119) hx hb dX1_same_99 (by decide) (fun c_8 => ?_) (fun c_8 => ?_)
        · refine lv_iconst (v := nI 0) hx hb dX1_same_119 (by decide) ?_
          refine lv_istore (lv' := [(7, .int (nI 0)), (0, .ref k0), (1, .int (nI g)), (2, .int (nI h)), (3, .int (nI (24 * g))), (4, .int (nI (24 * h))), (5, .int (nI (sM io mv g h i))), (6, .int (nI i))]) hx hb dX1_same_120 hl (by decide) rfl (fun ls hl => ?_)
          refine lv_aload_n hx hb dX1_same_122 rfl (lv_at hl 1 rfl) ?_
          refine va_get (D := D) (ci := 2) (v := .ref ko) (C := RX1) (T := TX1) (N := 10) hx hb hts hinRX1 hown hK hP 0 rfl rfl 2 (by decide) hf_13 (fun _ h9 => h9) rfl dX1_same_123 ?_
          refine lv_iload_n hx hb dX1_same_126 rfl (lv_at hl 4 rfl) ?_
          refine lv_iload hx hb dX1_same_127 (lv_at hl 7 rfl) ?_
          refine kn_iadd hx hb dX1_same_129 ?_
          refine kn_zald hx hb hK hP 2 0 rfl rfl (by omega) (by decide) dX1_same_130 ?_
          refine kb_ne (tgt := 147) hx hb dX1_same_131 (by decide) (fun h => absurd (c_8.symm.trans h) (by decide)) (fun _ => ?_)
          refine lv_aload_n hx hb dX1_same_134 rfl (lv_at hl 1 rfl) ?_
          refine va_get (D := D) (ci := 2) (v := .ref ko) (C := RX1) (T := TX1) (N := 10) hx hb hts hinRX1 hown hK hP 0 rfl rfl 2 (by decide) hf_13 (fun _ h9 => h9) rfl dX1_same_135 ?_
          refine lv_iload hx hb dX1_same_138 (lv_at hl 5 rfl) ?_
          refine lv_iload hx hb dX1_same_140 (lv_at hl 7 rfl) ?_
          refine kn_iadd hx hb dX1_same_142 ?_
          refine kn_zald hx hb hK hP 2 0 rfl rfl (by omega) (by decide) dX1_same_143 ?_
          refine kb_eq (tgt := 151) hx hb dX1_same_144 (by decide) (fun c_9 => ?_) (fun c_9 => ?_)
          · refine lv_iconst (v := nI 0) hx hb dX1_same_151 (by decide) ?_
            refine lv_aload_n hx hb dX1_same_152 rfl (lv_at hl 1 rfl) ?_
            refine va_get (D := D) (ci := 2) (v := .ref kv) (C := RX1) (T := TX1) (N := 10) hx hb hts hinRX1 hown hK hP 0 rfl rfl 1 (by decide) hf_7 (fun _ h9 => h9) rfl dX1_same_153 ?_
            refine lv_iload_n hx hb dX1_same_156 rfl (lv_at hl 4 rfl) ?_
            refine lv_iload hx hb dX1_same_157 (lv_at hl 7 rfl) ?_
            refine kn_iadd hx hb dX1_same_159 ?_
            refine kn_dald hx hb hK hP 1 1 rfl rfl (by omega) (by decide) dX1_same_160 ?_
            refine lv_aload_n hx hb dX1_same_161 rfl (lv_at hl 1 rfl) ?_
            refine va_get (D := D) (ci := 2) (v := .ref kv) (C := RX1) (T := TX1) (N := 10) hx hb hts hinRX1 hown hK hP 0 rfl rfl 1 (by decide) hf_7 (fun _ h9 => h9) rfl dX1_same_162 ?_
            refine lv_iload hx hb dX1_same_165 (lv_at hl 5 rfl) ?_
            refine lv_iload hx hb dX1_same_167 (lv_at hl 7 rfl) ?_
            refine kn_iadd hx hb dX1_same_169 ?_
            refine kn_dald hx hb hK hP 1 1 rfl rfl (by omega) (by decide) dX1_same_170 ?_
            refine rd_calli (va_runS (As := [.int (b2i false), .double (mv ((24 * g) + i)), .double (mv ((24 * h) + i))]) (rest := []) ⟨hx, hb, hml, hown, hts⟩ (c_X1_way l false (mv ((24 * g) + i)) (mv ((24 * h) + i)) ) (va_cwS 3 hts gX1_same_X1_way rfl rfl rfl (by decide +kernel) ⟨Nat.le_of_ble_eq_true rfl, Nat.le_of_ble_eq_true rfl⟩) ⟨fun a U g mk q => q, fun U hU hW => ⟨rfl, trivial⟩⟩ rfl rfl hl.1 rfl (lv_room (Nat.le_of_ble_eq_true rfl)) dX1_same_171 ⟨Nat.le_of_ble_eq_true rfl, Nat.le_of_ble_eq_true rfl⟩) (fun r_10 hr_10 => ?_)
            subst hr_10
            refine lv_istore (lv' := [(8, .int (nI (wy false (mv ((24 * g) + i)) (mv ((24 * h) + i))))), (7, .int (nI 0)), (0, .ref k0), (1, .int (nI g)), (2, .int (nI h)), (3, .int (nI (24 * g))), (4, .int (nI (24 * h))), (5, .int (nI (sM io mv g h i))), (6, .int (nI i))]) hx hb dX1_same_174 hl (by decide) rfl (fun ls hl => ?_)
            refine lv_iload hx hb dX1_same_176 (lv_at hl 0 rfl) ?_
            refine lv_iconst (v := nI 2) hx hb dX1_same_178 (by decide) ?_
            refine kn_icmp_ne (tgt := 187) hx hb (Nat.lt_trans (wy_lt _ _ _) (by decide)) (by decide) dX1_same_179 (by decide) (fun c_11 => ?_) (fun c_11 => ?_)
            · refine lv_iload hx hb dX1_same_187 (lv_at hl 1 rfl) ?_
              refine kn_eq (tgt := 196) hx hb (by decide) dX1_same_189 (by decide) (fun _ => ?_) (fun h => absurd h (by decide))
              refine lv_iconst (v := nI 0) hx hb dX1_same_196 (by decide) ?_
              refine lv_istore (lv' := [(5, .int (nI 0)), (8, .int (nI (wy false (mv ((24 * g) + i)) (mv ((24 * h) + i))))), (7, .int (nI 0)), (0, .ref k0), (1, .int (nI g)), (2, .int (nI h)), (3, .int (nI (24 * g))), (4, .int (nI (24 * h))), (6, .int (nI i))]) hx hb dX1_same_197 hl (by decide) rfl (fun ls hl => ?_)
              refine lv_iinc (v := nI (i + 1)) (lv' := [(6, .int (nI (i + 1))), (5, .int (nI 0)), (8, .int (nI (wy false (mv ((24 * g) + i)) (mv ((24 * h) + i))))), (7, .int (nI 0)), (0, .ref k0), (1, .int (nI g)), (2, .int (nI h)), (3, .int (nI (24 * g))), (4, .int (nI (24 * h)))]) hx hb dX1_same_199 hl (k := 8) rfl (nI_add i 1) (by decide) rfl (fun ls hl => ?_)
              refine lv_goto (tgt := 72) hx hb dX1_same_202 (by decide) ?_
              have e_1 : sM io mv g h (i + 1) = 0 := by simp [sM, c_4, c_7, c_8, c_9, c_11]
              exact ih (i + 1) ls (by omega) (by rw [e_1]; exact lv_sub hl [4, 5, 6, 7, 8, 1, 0] rfl)
            · refine lv_iload hx hb dX1_same_182 (lv_at hl 7 rfl) ?_
              refine lv_goto (tgt := 197) hx hb dX1_same_184 (by decide) ?_
              refine lv_istore (lv' := [(5, .int (nI (sM io mv g h i))), (8, .int (nI (wy false (mv ((24 * g) + i)) (mv ((24 * h) + i))))), (7, .int (nI 0)), (0, .ref k0), (1, .int (nI g)), (2, .int (nI h)), (3, .int (nI (24 * g))), (4, .int (nI (24 * h))), (6, .int (nI i))]) hx hb dX1_same_197 hl (by decide) rfl (fun ls hl => ?_)
              refine lv_iinc (v := nI (i + 1)) (lv' := [(6, .int (nI (i + 1))), (5, .int (nI (sM io mv g h i))), (8, .int (nI (wy false (mv ((24 * g) + i)) (mv ((24 * h) + i))))), (7, .int (nI 0)), (0, .ref k0), (1, .int (nI g)), (2, .int (nI h)), (3, .int (nI (24 * g))), (4, .int (nI (24 * h)))]) hx hb dX1_same_199 hl (k := 8) rfl (nI_add i 1) (by decide) rfl (fun ls hl => ?_)
              refine lv_goto (tgt := 72) hx hb dX1_same_202 (by decide) ?_
              have e_1 : sM io mv g h (i + 1) = sM io mv g h i := by simp [sM, c_4, c_7, c_8, c_9, c_11]
              exact ih (i + 1) ls (by omega) (by rw [e_1]; exact lv_sub hl [4, 5, 6, 7, 8, 1, 0] rfl)
          · refine lv_iconst (v := nI 1) hx hb dX1_same_147 (by decide) ?_
            refine lv_goto (tgt := 152) hx hb dX1_same_148 (by decide) ?_
            refine lv_aload_n hx hb dX1_same_152 rfl (lv_at hl 1 rfl) ?_
            refine va_get (D := D) (ci := 2) (v := .ref kv) (C := RX1) (T := TX1) (N := 10) hx hb hts hinRX1 hown hK hP 0 rfl rfl 1 (by decide) hf_7 (fun _ h9 => h9) rfl dX1_same_153 ?_
            refine lv_iload_n hx hb dX1_same_156 rfl (lv_at hl 4 rfl) ?_
            refine lv_iload hx hb dX1_same_157 (lv_at hl 7 rfl) ?_
            refine kn_iadd hx hb dX1_same_159 ?_
            refine kn_dald hx hb hK hP 1 1 rfl rfl (by omega) (by decide) dX1_same_160 ?_
            refine lv_aload_n hx hb dX1_same_161 rfl (lv_at hl 1 rfl) ?_
            refine va_get (D := D) (ci := 2) (v := .ref kv) (C := RX1) (T := TX1) (N := 10) hx hb hts hinRX1 hown hK hP 0 rfl rfl 1 (by decide) hf_7 (fun _ h9 => h9) rfl dX1_same_162 ?_
            refine lv_iload hx hb dX1_same_165 (lv_at hl 5 rfl) ?_
            refine lv_iload hx hb dX1_same_167 (lv_at hl 7 rfl) ?_
            refine kn_iadd hx hb dX1_same_169 ?_
            refine kn_dald hx hb hK hP 1 1 rfl rfl (by omega) (by decide) dX1_same_170 ?_
            refine rd_calli (va_runS (As := [.int (b2i true), .double (mv ((24 * g) + i)), .double (mv ((24 * h) + i))]) (rest := []) ⟨hx, hb, hml, hown, hts⟩ (c_X1_way l true (mv ((24 * g) + i)) (mv ((24 * h) + i)) ) (va_cwS 3 hts gX1_same_X1_way rfl rfl rfl (by decide +kernel) ⟨Nat.le_of_ble_eq_true rfl, Nat.le_of_ble_eq_true rfl⟩) ⟨fun a U g mk q => q, fun U hU hW => ⟨rfl, trivial⟩⟩ rfl rfl hl.1 rfl (lv_room (Nat.le_of_ble_eq_true rfl)) dX1_same_171 ⟨Nat.le_of_ble_eq_true rfl, Nat.le_of_ble_eq_true rfl⟩) (fun r_12 hr_12 => ?_)
            subst hr_12
            refine lv_istore (lv' := [(8, .int (nI (wy true (mv ((24 * g) + i)) (mv ((24 * h) + i))))), (7, .int (nI 0)), (0, .ref k0), (1, .int (nI g)), (2, .int (nI h)), (3, .int (nI (24 * g))), (4, .int (nI (24 * h))), (5, .int (nI (sM io mv g h i))), (6, .int (nI i))]) hx hb dX1_same_174 hl (by decide) rfl (fun ls hl => ?_)
            refine lv_iload hx hb dX1_same_176 (lv_at hl 0 rfl) ?_
            refine lv_iconst (v := nI 2) hx hb dX1_same_178 (by decide) ?_
            refine kn_icmp_ne (tgt := 187) hx hb (Nat.lt_trans (wy_lt _ _ _) (by decide)) (by decide) dX1_same_179 (by decide) (fun c_13 => ?_) (fun c_13 => ?_)
            · refine lv_iload hx hb dX1_same_187 (lv_at hl 1 rfl) ?_
              refine kn_eq (tgt := 196) hx hb (by decide) dX1_same_189 (by decide) (fun _ => ?_) (fun h => absurd h (by decide))
              refine lv_iconst (v := nI 0) hx hb dX1_same_196 (by decide) ?_
              refine lv_istore (lv' := [(5, .int (nI 0)), (8, .int (nI (wy true (mv ((24 * g) + i)) (mv ((24 * h) + i))))), (7, .int (nI 0)), (0, .ref k0), (1, .int (nI g)), (2, .int (nI h)), (3, .int (nI (24 * g))), (4, .int (nI (24 * h))), (6, .int (nI i))]) hx hb dX1_same_197 hl (by decide) rfl (fun ls hl => ?_)
              refine lv_iinc (v := nI (i + 1)) (lv' := [(6, .int (nI (i + 1))), (5, .int (nI 0)), (8, .int (nI (wy true (mv ((24 * g) + i)) (mv ((24 * h) + i))))), (7, .int (nI 0)), (0, .ref k0), (1, .int (nI g)), (2, .int (nI h)), (3, .int (nI (24 * g))), (4, .int (nI (24 * h)))]) hx hb dX1_same_199 hl (k := 8) rfl (nI_add i 1) (by decide) rfl (fun ls hl => ?_)
              refine lv_goto (tgt := 72) hx hb dX1_same_202 (by decide) ?_
              have e_1 : sM io mv g h (i + 1) = 0 := by simp [sM, c_4, c_7, c_8, c_9, c_13]
              exact ih (i + 1) ls (by omega) (by rw [e_1]; exact lv_sub hl [4, 5, 6, 7, 8, 1, 0] rfl)
            · refine lv_iload hx hb dX1_same_182 (lv_at hl 7 rfl) ?_
              refine lv_goto (tgt := 197) hx hb dX1_same_184 (by decide) ?_
              refine lv_istore (lv' := [(5, .int (nI (sM io mv g h i))), (8, .int (nI (wy true (mv ((24 * g) + i)) (mv ((24 * h) + i))))), (7, .int (nI 0)), (0, .ref k0), (1, .int (nI g)), (2, .int (nI h)), (3, .int (nI (24 * g))), (4, .int (nI (24 * h))), (6, .int (nI i))]) hx hb dX1_same_197 hl (by decide) rfl (fun ls hl => ?_)
              refine lv_iinc (v := nI (i + 1)) (lv' := [(6, .int (nI (i + 1))), (5, .int (nI (sM io mv g h i))), (8, .int (nI (wy true (mv ((24 * g) + i)) (mv ((24 * h) + i))))), (7, .int (nI 0)), (0, .ref k0), (1, .int (nI g)), (2, .int (nI h)), (3, .int (nI (24 * g))), (4, .int (nI (24 * h)))]) hx hb dX1_same_199 hl (k := 8) rfl (nI_add i 1) (by decide) rfl (fun ls hl => ?_)
              refine lv_goto (tgt := 72) hx hb dX1_same_202 (by decide) ?_
              have e_1 : sM io mv g h (i + 1) = sM io mv g h i := by simp [sM, c_4, c_7, c_8, c_9, c_13]
              exact ih (i + 1) ls (by omega) (by rw [e_1]; exact lv_sub hl [4, 5, 6, 7, 8, 1, 0] rfl)
        · refine lv_aload_n hx hb dX1_same_102 rfl (lv_at hl 0 rfl) ?_
          refine va_get (D := D) (ci := 2) (v := .ref ko) (C := RX1) (T := TX1) (N := 10) hx hb hts hinRX1 hown hK hP 0 rfl rfl 2 (by decide) hf_13 (fun _ h9 => h9) rfl dX1_same_103 ?_
          refine lv_iload hx hb dX1_same_106 (lv_at hl 4 rfl) ?_
          refine lv_iload hx hb dX1_same_108 (lv_at hl 6 rfl) ?_
          refine kn_iadd hx hb dX1_same_110 ?_
          refine kn_zald hx hb hK hP 2 0 rfl rfl (by omega) (by decide) dX1_same_111 ?_
          refine kb_eq (tgt := 119) hx hb dX1_same_112 (by decide) (fun c_14 => ?_) (fun c_14 => ?_)
          · refine lv_iconst (v := nI 0) hx hb dX1_same_119 (by decide) ?_
            refine lv_istore (lv' := [(7, .int (nI 0)), (0, .ref k0), (1, .int (nI g)), (2, .int (nI h)), (3, .int (nI (24 * g))), (4, .int (nI (24 * h))), (5, .int (nI (sM io mv g h i))), (6, .int (nI i))]) hx hb dX1_same_120 hl (by decide) rfl (fun ls hl => ?_)
            refine lv_aload_n hx hb dX1_same_122 rfl (lv_at hl 1 rfl) ?_
            refine va_get (D := D) (ci := 2) (v := .ref ko) (C := RX1) (T := TX1) (N := 10) hx hb hts hinRX1 hown hK hP 0 rfl rfl 2 (by decide) hf_13 (fun _ h9 => h9) rfl dX1_same_123 ?_
            refine lv_iload_n hx hb dX1_same_126 rfl (lv_at hl 4 rfl) ?_
            refine lv_iload hx hb dX1_same_127 (lv_at hl 7 rfl) ?_
            refine kn_iadd hx hb dX1_same_129 ?_
            refine kn_zald hx hb hK hP 2 0 rfl rfl (by omega) (by decide) dX1_same_130 ?_
            refine kb_ne (tgt := 147) hx hb dX1_same_131 (by decide) (fun _ => ?_) (fun h => absurd (c_8.symm.trans h) (by decide))
            refine lv_iconst (v := nI 1) hx hb dX1_same_147 (by decide) ?_
            refine lv_goto (tgt := 152) hx hb dX1_same_148 (by decide) ?_
            refine lv_aload_n hx hb dX1_same_152 rfl (lv_at hl 1 rfl) ?_
            refine va_get (D := D) (ci := 2) (v := .ref kv) (C := RX1) (T := TX1) (N := 10) hx hb hts hinRX1 hown hK hP 0 rfl rfl 1 (by decide) hf_7 (fun _ h9 => h9) rfl dX1_same_153 ?_
            refine lv_iload_n hx hb dX1_same_156 rfl (lv_at hl 4 rfl) ?_
            refine lv_iload hx hb dX1_same_157 (lv_at hl 7 rfl) ?_
            refine kn_iadd hx hb dX1_same_159 ?_
            refine kn_dald hx hb hK hP 1 1 rfl rfl (by omega) (by decide) dX1_same_160 ?_
            refine lv_aload_n hx hb dX1_same_161 rfl (lv_at hl 1 rfl) ?_
            refine va_get (D := D) (ci := 2) (v := .ref kv) (C := RX1) (T := TX1) (N := 10) hx hb hts hinRX1 hown hK hP 0 rfl rfl 1 (by decide) hf_7 (fun _ h9 => h9) rfl dX1_same_162 ?_
            refine lv_iload hx hb dX1_same_165 (lv_at hl 5 rfl) ?_
            refine lv_iload hx hb dX1_same_167 (lv_at hl 7 rfl) ?_
            refine kn_iadd hx hb dX1_same_169 ?_
            refine kn_dald hx hb hK hP 1 1 rfl rfl (by omega) (by decide) dX1_same_170 ?_
            refine rd_calli (va_runS (As := [.int (b2i true), .double (mv ((24 * g) + i)), .double (mv ((24 * h) + i))]) (rest := []) ⟨hx, hb, hml, hown, hts⟩ (c_X1_way l true (mv ((24 * g) + i)) (mv ((24 * h) + i)) ) (va_cwS 3 hts gX1_same_X1_way rfl rfl rfl (by decide +kernel) ⟨Nat.le_of_ble_eq_true rfl, Nat.le_of_ble_eq_true rfl⟩) ⟨fun a U g mk q => q, fun U hU hW => ⟨rfl, trivial⟩⟩ rfl rfl hl.1 rfl (lv_room (Nat.le_of_ble_eq_true rfl)) dX1_same_171 ⟨Nat.le_of_ble_eq_true rfl, Nat.le_of_ble_eq_true rfl⟩) (fun r_15 hr_15 => ?_)
            subst hr_15
            refine lv_istore (lv' := [(8, .int (nI (wy true (mv ((24 * g) + i)) (mv ((24 * h) + i))))), (7, .int (nI 0)), (0, .ref k0), (1, .int (nI g)), (2, .int (nI h)), (3, .int (nI (24 * g))), (4, .int (nI (24 * h))), (5, .int (nI (sM io mv g h i))), (6, .int (nI i))]) hx hb dX1_same_174 hl (by decide) rfl (fun ls hl => ?_)
            refine lv_iload hx hb dX1_same_176 (lv_at hl 0 rfl) ?_
            refine lv_iconst (v := nI 2) hx hb dX1_same_178 (by decide) ?_
            refine kn_icmp_ne (tgt := 187) hx hb (Nat.lt_trans (wy_lt _ _ _) (by decide)) (by decide) dX1_same_179 (by decide) (fun c_16 => ?_) (fun c_16 => ?_)
            · refine lv_iload hx hb dX1_same_187 (lv_at hl 1 rfl) ?_
              refine kn_eq (tgt := 196) hx hb (by decide) dX1_same_189 (by decide) (fun _ => ?_) (fun h => absurd h (by decide))
              refine lv_iconst (v := nI 0) hx hb dX1_same_196 (by decide) ?_
              refine lv_istore (lv' := [(5, .int (nI 0)), (8, .int (nI (wy true (mv ((24 * g) + i)) (mv ((24 * h) + i))))), (7, .int (nI 0)), (0, .ref k0), (1, .int (nI g)), (2, .int (nI h)), (3, .int (nI (24 * g))), (4, .int (nI (24 * h))), (6, .int (nI i))]) hx hb dX1_same_197 hl (by decide) rfl (fun ls hl => ?_)
              refine lv_iinc (v := nI (i + 1)) (lv' := [(6, .int (nI (i + 1))), (5, .int (nI 0)), (8, .int (nI (wy true (mv ((24 * g) + i)) (mv ((24 * h) + i))))), (7, .int (nI 0)), (0, .ref k0), (1, .int (nI g)), (2, .int (nI h)), (3, .int (nI (24 * g))), (4, .int (nI (24 * h)))]) hx hb dX1_same_199 hl (k := 8) rfl (nI_add i 1) (by decide) rfl (fun ls hl => ?_)
              refine lv_goto (tgt := 72) hx hb dX1_same_202 (by decide) ?_
              have e_1 : sM io mv g h (i + 1) = 0 := by simp [sM, c_4, c_7, c_8, c_14, c_16]
              exact ih (i + 1) ls (by omega) (by rw [e_1]; exact lv_sub hl [4, 5, 6, 7, 8, 1, 0] rfl)
            · refine lv_iload hx hb dX1_same_182 (lv_at hl 7 rfl) ?_
              refine lv_goto (tgt := 197) hx hb dX1_same_184 (by decide) ?_
              refine lv_istore (lv' := [(5, .int (nI (sM io mv g h i))), (8, .int (nI (wy true (mv ((24 * g) + i)) (mv ((24 * h) + i))))), (7, .int (nI 0)), (0, .ref k0), (1, .int (nI g)), (2, .int (nI h)), (3, .int (nI (24 * g))), (4, .int (nI (24 * h))), (6, .int (nI i))]) hx hb dX1_same_197 hl (by decide) rfl (fun ls hl => ?_)
              refine lv_iinc (v := nI (i + 1)) (lv' := [(6, .int (nI (i + 1))), (5, .int (nI (sM io mv g h i))), (8, .int (nI (wy true (mv ((24 * g) + i)) (mv ((24 * h) + i))))), (7, .int (nI 0)), (0, .ref k0), (1, .int (nI g)), (2, .int (nI h)), (3, .int (nI (24 * g))), (4, .int (nI (24 * h)))]) hx hb dX1_same_199 hl (k := 8) rfl (nI_add i 1) (by decide) rfl (fun ls hl => ?_)
              refine lv_goto (tgt := 72) hx hb dX1_same_202 (by decide) ?_
              have e_1 : sM io mv g h (i + 1) = sM io mv g h i := by simp [sM, c_4, c_7, c_8, c_14, c_16]
              exact ih (i + 1) ls (by omega) (by rw [e_1]; exact lv_sub hl [4, 5, 6, 7, 8, 1, 0] rfl)
          · refine lv_iconst (v := nI 1) hx hb dX1_same_115 (by decide) ?_
            refine lv_goto (tgt := 120) hx hb dX1_same_116 (by decide) ?_
            refine lv_istore (lv' := [(7, .int (nI 1)), (0, .ref k0), (1, .int (nI g)), (2, .int (nI h)), (3, .int (nI (24 * g))), (4, .int (nI (24 * h))), (5, .int (nI (sM io mv g h i))), (6, .int (nI i))]) hx hb dX1_same_120 hl (by decide) rfl (fun ls hl => ?_)
            refine lv_aload_n hx hb dX1_same_122 rfl (lv_at hl 1 rfl) ?_
            refine va_get (D := D) (ci := 2) (v := .ref ko) (C := RX1) (T := TX1) (N := 10) hx hb hts hinRX1 hown hK hP 0 rfl rfl 2 (by decide) hf_13 (fun _ h9 => h9) rfl dX1_same_123 ?_
            refine lv_iload_n hx hb dX1_same_126 rfl (lv_at hl 4 rfl) ?_
            refine lv_iload hx hb dX1_same_127 (lv_at hl 7 rfl) ?_
            refine kn_iadd hx hb dX1_same_129 ?_
            refine kn_zald hx hb hK hP 2 0 rfl rfl (by omega) (by decide) dX1_same_130 ?_
            refine kb_ne (tgt := 147) hx hb dX1_same_131 (by decide) (fun _ => ?_) (fun h => absurd (c_8.symm.trans h) (by decide))
            refine lv_iconst (v := nI 1) hx hb dX1_same_147 (by decide) ?_
            refine lv_goto (tgt := 152) hx hb dX1_same_148 (by decide) ?_
            refine lv_aload_n hx hb dX1_same_152 rfl (lv_at hl 1 rfl) ?_
            refine va_get (D := D) (ci := 2) (v := .ref kv) (C := RX1) (T := TX1) (N := 10) hx hb hts hinRX1 hown hK hP 0 rfl rfl 1 (by decide) hf_7 (fun _ h9 => h9) rfl dX1_same_153 ?_
            refine lv_iload_n hx hb dX1_same_156 rfl (lv_at hl 4 rfl) ?_
            refine lv_iload hx hb dX1_same_157 (lv_at hl 7 rfl) ?_
            refine kn_iadd hx hb dX1_same_159 ?_
            refine kn_dald hx hb hK hP 1 1 rfl rfl (by omega) (by decide) dX1_same_160 ?_
            refine lv_aload_n hx hb dX1_same_161 rfl (lv_at hl 1 rfl) ?_
            refine va_get (D := D) (ci := 2) (v := .ref kv) (C := RX1) (T := TX1) (N := 10) hx hb hts hinRX1 hown hK hP 0 rfl rfl 1 (by decide) hf_7 (fun _ h9 => h9) rfl dX1_same_162 ?_
            refine lv_iload hx hb dX1_same_165 (lv_at hl 5 rfl) ?_
            refine lv_iload hx hb dX1_same_167 (lv_at hl 7 rfl) ?_
            refine kn_iadd hx hb dX1_same_169 ?_
            refine kn_dald hx hb hK hP 1 1 rfl rfl (by omega) (by decide) dX1_same_170 ?_
            refine rd_calli (va_runS (As := [.int (b2i true), .double (mv ((24 * g) + i)), .double (mv ((24 * h) + i))]) (rest := []) ⟨hx, hb, hml, hown, hts⟩ (c_X1_way l true (mv ((24 * g) + i)) (mv ((24 * h) + i)) ) (va_cwS 3 hts gX1_same_X1_way rfl rfl rfl (by decide +kernel) ⟨Nat.le_of_ble_eq_true rfl, Nat.le_of_ble_eq_true rfl⟩) ⟨fun a U g mk q => q, fun U hU hW => ⟨rfl, trivial⟩⟩ rfl rfl hl.1 rfl (lv_room (Nat.le_of_ble_eq_true rfl)) dX1_same_171 ⟨Nat.le_of_ble_eq_true rfl, Nat.le_of_ble_eq_true rfl⟩) (fun r_17 hr_17 => ?_)
            subst hr_17
            refine lv_istore (lv' := [(8, .int (nI (wy true (mv ((24 * g) + i)) (mv ((24 * h) + i))))), (7, .int (nI 1)), (0, .ref k0), (1, .int (nI g)), (2, .int (nI h)), (3, .int (nI (24 * g))), (4, .int (nI (24 * h))), (5, .int (nI (sM io mv g h i))), (6, .int (nI i))]) hx hb dX1_same_174 hl (by decide) rfl (fun ls hl => ?_)
            refine lv_iload hx hb dX1_same_176 (lv_at hl 0 rfl) ?_
            refine lv_iconst (v := nI 2) hx hb dX1_same_178 (by decide) ?_
            refine kn_icmp_ne (tgt := 187) hx hb (Nat.lt_trans (wy_lt _ _ _) (by decide)) (by decide) dX1_same_179 (by decide) (fun c_18 => ?_) (fun c_18 => ?_)
            · refine lv_iload hx hb dX1_same_187 (lv_at hl 1 rfl) ?_
              refine kn_eq (tgt := 196) hx hb (by decide) dX1_same_189 (by decide) (fun h => absurd h (by decide)) (fun _ => ?_)
              refine lv_iconst (v := nI 1) hx hb dX1_same_192 (by decide) ?_
              refine lv_goto (tgt := 197) hx hb dX1_same_193 (by decide) ?_
              refine lv_istore (lv' := [(5, .int (nI 1)), (8, .int (nI (wy true (mv ((24 * g) + i)) (mv ((24 * h) + i))))), (7, .int (nI 1)), (0, .ref k0), (1, .int (nI g)), (2, .int (nI h)), (3, .int (nI (24 * g))), (4, .int (nI (24 * h))), (6, .int (nI i))]) hx hb dX1_same_197 hl (by decide) rfl (fun ls hl => ?_)
              refine lv_iinc (v := nI (i + 1)) (lv' := [(6, .int (nI (i + 1))), (5, .int (nI 1)), (8, .int (nI (wy true (mv ((24 * g) + i)) (mv ((24 * h) + i))))), (7, .int (nI 1)), (0, .ref k0), (1, .int (nI g)), (2, .int (nI h)), (3, .int (nI (24 * g))), (4, .int (nI (24 * h)))]) hx hb dX1_same_199 hl (k := 8) rfl (nI_add i 1) (by decide) rfl (fun ls hl => ?_)
              refine lv_goto (tgt := 72) hx hb dX1_same_202 (by decide) ?_
              have e_1 : sM io mv g h (i + 1) = 1 := by simp [sM, c_4, c_7, c_8, c_14, c_18]
              exact ih (i + 1) ls (by omega) (by rw [e_1]; exact lv_sub hl [4, 5, 6, 7, 8, 1, 0] rfl)
            · refine lv_iload hx hb dX1_same_182 (lv_at hl 7 rfl) ?_
              refine lv_goto (tgt := 197) hx hb dX1_same_184 (by decide) ?_
              refine lv_istore (lv' := [(5, .int (nI (sM io mv g h i))), (8, .int (nI (wy true (mv ((24 * g) + i)) (mv ((24 * h) + i))))), (7, .int (nI 1)), (0, .ref k0), (1, .int (nI g)), (2, .int (nI h)), (3, .int (nI (24 * g))), (4, .int (nI (24 * h))), (6, .int (nI i))]) hx hb dX1_same_197 hl (by decide) rfl (fun ls hl => ?_)
              refine lv_iinc (v := nI (i + 1)) (lv' := [(6, .int (nI (i + 1))), (5, .int (nI (sM io mv g h i))), (8, .int (nI (wy true (mv ((24 * g) + i)) (mv ((24 * h) + i))))), (7, .int (nI 1)), (0, .ref k0), (1, .int (nI g)), (2, .int (nI h)), (3, .int (nI (24 * g))), (4, .int (nI (24 * h)))]) hx hb dX1_same_199 hl (k := 8) rfl (nI_add i 1) (by decide) rfl (fun ls hl => ?_)
              refine lv_goto (tgt := 72) hx hb dX1_same_202 (by decide) ?_
              have e_1 : sM io mv g h (i + 1) = sM io mv g h i := by simp [sM, c_4, c_7, c_8, c_14, c_18]
              exact ih (i + 1) ls (by omega) (by rw [e_1]; exact lv_sub hl [4, 5, 6, 7, 8, 1, 0] rfl)
set_option maxHeartbeats 4000000 in
set_option maxRecDepth 100000 in
theorem c_X1_level_bad (l : Launch) (D : va_G) (k0 kv ko ks km kt kp kb : Nat) (cZ cD cI : ClassId) (th : Nat) (mv : Nat → UInt64) (io : Nat → Bool) (sz : Nat → Nat) (mk : Nat → UInt64) (se : Nat → Bool) (pv : Nat → UInt64) (pd : Nat → Bool) (op : Bool) (mw : Int32) (hsz : ∀ j, sz j ≤ 12) (zz : Nat) (x0 : Int32) (y : UInt64) (hbad : ¬ (InN 6 x0 ∧ lvl y = true)) : Met l yX1_level wsX1_level ({ frames := 1, cells := 0, slots := 0, locals := 23 }) (va_Pc [.ref k0, .int x0, .double y] (fun U => U.heap.size = zz ∧ va_P D vwCl (WM k0 kv ko ks km kt kp kb cZ cD cI th mv io sz mk se pv pd op mw) U.heap ∧ va_K D vwCl (TY cZ cD cI) U ∧ va_D (fun _ => True) (WM k0 kv ko ks km kt kp kb cZ cD cI th mv io sz mk se pv pd op mw))) (wr_Qi (fun r => r = nI 0) (fun H => va_P D vwCl (WM k0 kv ko ks km kt kp kb cZ cD cI (thr true false false) mv io sz mk se pv pd op mw) H) (va_A (WM k0 kv ko ks km kt kp kb cZ cD cI th mv io sz mk se pv pd op mw) zz))  0 0 (va_A (WM k0 kv ko ks km kt kp kb cZ cD cI th mv io sz mk se pv pd op mw) zz) := by
  refine Met.ofW (cc := cX1_level) (maxL := 5) (ret := some .int) (by decide) rfl ?_
  intro p e s m args below meth c s₁ B hml hv
  obtain ⟨rfl, hsz_, hP, hK, hD0⟩ := hv
  have hx := B.exec
  have hb := B.bytes
  have hr := B.returns
  have hts := atoms_spec (ws := wsX1_level) B.pre
  have hown : s.vm.findClass RX1 = some m.cls := findClass_of_methodNamed B.named
  have hlocks := B.notSynchronized
  subst hsz_
  have hD := hD0.self (sz := s.heap.size)
  generalize hAe : va_A (WM k0 kv ko ks km kt kp kb cZ cD cI th mv io sz mk se pv pd op mw) s.heap.size = A at hD ⊢
  have hA : ∀ q : Nat, s.heap.size ≤ q → A q := fun q h => by rw [← hAe]; exact Or.inr h
  have hS : va_S A s.heap s.heap [] := va_S.rf
  have hl := lv_entry ([.ref k0, .int x0, .double y]) (n := 5) (Nat.le_of_ble_eq_true rfl)
  rw [lg_entry_eq]
  generalize (lg_sl ([.ref k0, .int x0, .double y]) ++ List.replicate (5 - (lg_sl ([.ref k0, .int x0, .double y])).length) Slot.unset).toArray = ls at hl ⊢
  have hl : lv_has ls 5 [(0, .ref k0), (1, .int x0), (2, .double y)] := hl
  refine lv_iload_n hx hb dX1_level_0 rfl (lv_at hl 1 rfl) ?_
  refine lv_iconst (v := nI 5) hx hb dX1_level_1 (by decide) ?_
  refine rd_calli (va_runS (As := [.int x0, .int (nI 5)]) (rest := []) ⟨hx, hb, hml, hown, hts⟩ (c_X1_outside l x0 5 ) (va_cwS 2 hts gX1_level_X1_outside rfl rfl rfl (by decide +kernel) ⟨Nat.le_of_ble_eq_true rfl, Nat.le_of_ble_eq_true rfl⟩) ⟨fun a U g mk q => q, fun U hU hW => ⟨rfl, trivial⟩⟩ rfl rfl hl.1 rfl (lv_room (Nat.le_of_ble_eq_true rfl)) dX1_level_2 ⟨Nat.le_of_ble_eq_true rfl, Nat.le_of_ble_eq_true rfl⟩) (fun r_1 hr_1 => ?_)
  subst hr_1
  refine kb_ne (tgt := 15) hx hb dX1_level_5 (by decide) (fun c_2 => ?_) (fun c_2 => ?_)
  · refine lv_iconst (v := nI 1) hx hb dX1_level_15 (by decide) ?_
    refine lv_goto (tgt := 20) hx hb dX1_level_16 (by decide) ?_
    refine lv_istore (lv' := [(4, .int (nI 1)), (0, .ref k0), (1, .int x0), (2, .double y)]) hx hb dX1_level_20 hl (by decide) rfl (fun ls hl => ?_)
    refine lv_aload_n hx hb dX1_level_22 rfl (lv_at hl 1 rfl) ?_
    refine lv_iload hx hb dX1_level_23 (lv_at hl 0 rfl) ?_
    refine lv_iload hx hb dX1_level_25 (lv_at hl 0 rfl) ?_
    refine kn_ne (tgt := 47) hx hb (by decide) dX1_level_27 (by decide) (fun _ => ?_) (fun h => absurd h (by decide))
    refine lv_iconst (v := nI 0) hx hb dX1_level_47 (by decide) ?_
    refine lv_iconst (v := nI 0) hx hb dX1_level_48 (by decide) ?_
    have hFc := va_free (wc := WM k0 kv ko ks km kt kp kb cZ cD cI th mv io sz mk se pv pd op mw) hD hS hA [0, 1, 2, 3, 4, 5, 6, 7] rfl
    refine wr_calli (va_runV (As := [.int (b2i true), .int (b2i false), .int (b2i false)]) (rest := []) ⟨hx, hb, hml, hown, hts⟩ (c_X1_throwing l D k0 kv ko ks km kt kp kb cZ cD cI th mv io sz mk se pv pd op mw hsz s.heap.size true false false ) (cwV 3 hts gX1_level_X1_throwing rfl rfl rfl (by decide +kernel) ⟨Nat.le_of_ble_eq_true rfl, Nat.le_of_ble_eq_true rfl⟩) ⟨fun a U g mk q => ⟨q.1, q.2.1, q.2.2.1, va_K.moved (u := U) (U := U.calling g mk a) (Vm.Alike.refl U.vm) q.2.2.2.1, q.2.2.2.2⟩, va_recv hK hP (ci := 2) (q0 := 0) rfl rfl, fun U hU hW => ⟨rfl, by rw [hU], by rw [hU]; exact hP, va_K.moved hW.alike hK, hD.weaken (fun _ _ _ _ => trivial)⟩⟩ rfl rfl hl.1 rfl (lv_room (Nat.le_of_ble_eq_true rfl)) dX1_level_49 ⟨Nat.le_of_ble_eq_true rfl, Nat.le_of_ble_eq_true rfl⟩) hS hFc (fun r_3 H locs hr_3 hP _ _ hS => ?_)
    subst hr_3
    refine kt_i (y := b2i true) rfl ?_
    have hD : va_D A (WM k0 kv ko ks km kt kp kb cZ cD cI (thr true false false) mv io sz mk se pv pd op mw) := va_D_same (ws := WM k0 kv ko ks km kt kp kb cZ cD cI th mv io sz mk se pv pd op mw) rfl hD
    have hP : va_P D vwCl (WM k0 kv ko ks km kt kp kb cZ cD cI (thr true false false) mv io sz mk se pv pd op mw) H := hP
    refine kb_eq (tgt := 57) hx hb dX1_level_52 (by decide) (fun h => absurd h (by decide)) (fun _ => ?_)
    refine lv_iconst (v := nI 0) hx hb dX1_level_55 (by decide) ?_
    refine W.widen (k := 0) (n := 0) (Nat.le_of_ble_eq_true rfl) (Nat.le_of_ble_eq_true rfl) ?_
    exact W.iret (v := nI 0) hx hb hr (fun t9 ht9 hW9 => ⟨⟨_, rfl, rfl, by rw [ht9]; exact hP⟩, hS.F ht9⟩) hS.2.2 dX1_level_56
  · refine lv_dload_n hx hb dX1_level_8 rfl (lv_at hl 2 rfl) ?_
    refine rd_calli (va_runS (As := [.double y]) (rest := []) ⟨hx, hb, hml, hown, hts⟩ (c_X1_isLevel l y ) (va_cwS 1 hts gX1_level_X1_isLevel rfl rfl rfl (by decide +kernel) ⟨Nat.le_of_ble_eq_true rfl, Nat.le_of_ble_eq_true rfl⟩) ⟨fun a U g mk q => q, fun U hU hW => ⟨rfl, trivial⟩⟩ rfl rfl hl.1 rfl (lv_room (Nat.le_of_ble_eq_true rfl)) dX1_level_9 ⟨Nat.le_of_ble_eq_true rfl, Nat.le_of_ble_eq_true rfl⟩) (fun r_4 hr_4 => ?_)
    subst hr_4
    refine kb_ne (tgt := 19) hx hb dX1_level_12 (by decide) (fun c_5 => ?_) (fun c_5 => ?_)
    · refine lv_iconst (v := nI 0) hx hb dX1_level_19 (by decide) ?_
      exact absurd (show InN 6 x0 ∧ lvl y = true from ⟨outs_in (by decide) c_2, c_5⟩) hbad
    · refine lv_iconst (v := nI 1) hx hb dX1_level_15 (by decide) ?_
      refine lv_goto (tgt := 20) hx hb dX1_level_16 (by decide) ?_
      refine lv_istore (lv' := [(4, .int (nI 1)), (0, .ref k0), (1, .int x0), (2, .double y)]) hx hb dX1_level_20 hl (by decide) rfl (fun ls hl => ?_)
      refine lv_aload_n hx hb dX1_level_22 rfl (lv_at hl 1 rfl) ?_
      refine lv_iload hx hb dX1_level_23 (lv_at hl 0 rfl) ?_
      refine lv_iload hx hb dX1_level_25 (lv_at hl 0 rfl) ?_
      refine kn_ne (tgt := 47) hx hb (by decide) dX1_level_27 (by decide) (fun _ => ?_) (fun h => absurd h (by decide))
      refine lv_iconst (v := nI 0) hx hb dX1_level_47 (by decide) ?_
      refine lv_iconst (v := nI 0) hx hb dX1_level_48 (by decide) ?_
      have hFc := va_free (wc := WM k0 kv ko ks km kt kp kb cZ cD cI th mv io sz mk se pv pd op mw) hD hS hA [0, 1, 2, 3, 4, 5, 6, 7] rfl
      refine wr_calli (va_runV (As := [.int (b2i true), .int (b2i false), .int (b2i false)]) (rest := []) ⟨hx, hb, hml, hown, hts⟩ (c_X1_throwing l D k0 kv ko ks km kt kp kb cZ cD cI th mv io sz mk se pv pd op mw hsz s.heap.size true false false ) (cwV 3 hts gX1_level_X1_throwing rfl rfl rfl (by decide +kernel) ⟨Nat.le_of_ble_eq_true rfl, Nat.le_of_ble_eq_true rfl⟩) ⟨fun a U g mk q => ⟨q.1, q.2.1, q.2.2.1, va_K.moved (u := U) (U := U.calling g mk a) (Vm.Alike.refl U.vm) q.2.2.2.1, q.2.2.2.2⟩, va_recv hK hP (ci := 2) (q0 := 0) rfl rfl, fun U hU hW => ⟨rfl, by rw [hU], by rw [hU]; exact hP, va_K.moved hW.alike hK, hD.weaken (fun _ _ _ _ => trivial)⟩⟩ rfl rfl hl.1 rfl (lv_room (Nat.le_of_ble_eq_true rfl)) dX1_level_49 ⟨Nat.le_of_ble_eq_true rfl, Nat.le_of_ble_eq_true rfl⟩) hS hFc (fun r_6 H locs hr_6 hP _ _ hS => ?_)
      subst hr_6
      refine kt_i (y := b2i true) rfl ?_
      have hD : va_D A (WM k0 kv ko ks km kt kp kb cZ cD cI (thr true false false) mv io sz mk se pv pd op mw) := va_D_same (ws := WM k0 kv ko ks km kt kp kb cZ cD cI th mv io sz mk se pv pd op mw) rfl hD
      have hP : va_P D vwCl (WM k0 kv ko ks km kt kp kb cZ cD cI (thr true false false) mv io sz mk se pv pd op mw) H := hP
      refine kb_eq (tgt := 57) hx hb dX1_level_52 (by decide) (fun h => absurd h (by decide)) (fun _ => ?_)
      refine lv_iconst (v := nI 0) hx hb dX1_level_55 (by decide) ?_
      refine W.widen (k := 0) (n := 0) (Nat.le_of_ble_eq_true rfl) (Nat.le_of_ble_eq_true rfl) ?_
      exact W.iret (v := nI 0) hx hb hr (fun t9 ht9 hW9 => ⟨⟨_, rfl, rfl, by rw [ht9]; exact hP⟩, hS.F ht9⟩) hS.2.2 dX1_level_56
set_option maxHeartbeats 4000000 in
set_option maxRecDepth 100000 in
theorem c_X1_wind_bad (l : Launch) (D : va_G) (k0 kv ko ks km kt kp kb : Nat) (cZ cD cI : ClassId) (th : Nat) (mv : Nat → UInt64) (io : Nat → Bool) (sz : Nat → Nat) (mk : Nat → UInt64) (se : Nat → Bool) (pv : Nat → UInt64) (pd : Nat → Bool) (op : Bool) (mw : Int32) (hsz : ∀ j, sz j ≤ 12) (zz : Nat) (x0 : Int32) (y : UInt32) (hnn : vf_n64 (FP.f2d y)) (hbad : ¬ (InN 6 x0 ∧ wnM (FP.f2d y) = true)) : Met l yX1_wind wsX1_wind ({ frames := 1, cells := 0, slots := 0, locals := 23 }) (va_Pc [.ref k0, .int x0, .float y] (fun U => U.heap.size = zz ∧ va_P D vwCl (WM k0 kv ko ks km kt kp kb cZ cD cI th mv io sz mk se pv pd op mw) U.heap ∧ va_K D vwCl (TY cZ cD cI) U ∧ va_D (fun _ => True) (WM k0 kv ko ks km kt kp kb cZ cD cI th mv io sz mk se pv pd op mw))) (wr_Qi (fun r => r = nI 0) (fun H => va_P D vwCl (WM k0 kv ko ks km kt kp kb cZ cD cI (thr true false false) mv io sz mk se pv pd op mw) H) (va_A (WM k0 kv ko ks km kt kp kb cZ cD cI th mv io sz mk se pv pd op mw) zz))  0 0 (va_A (WM k0 kv ko ks km kt kp kb cZ cD cI th mv io sz mk se pv pd op mw) zz) := by
  refine Met.ofW (cc := cX1_wind) (maxL := 4) (ret := some .int) (by decide) rfl ?_
  intro p e s m args below meth c s₁ B hml hv
  obtain ⟨rfl, hsz_, hP, hK, hD0⟩ := hv
  have hx := B.exec
  have hb := B.bytes
  have hr := B.returns
  have hts := atoms_spec (ws := wsX1_wind) B.pre
  have hown : s.vm.findClass RX1 = some m.cls := findClass_of_methodNamed B.named
  have hlocks := B.notSynchronized
  subst hsz_
  have hD := hD0.self (sz := s.heap.size)
  generalize hAe : va_A (WM k0 kv ko ks km kt kp kb cZ cD cI th mv io sz mk se pv pd op mw) s.heap.size = A at hD ⊢
  have hA : ∀ q : Nat, s.heap.size ≤ q → A q := fun q h => by rw [← hAe]; exact Or.inr h
  have hS : va_S A s.heap s.heap [] := va_S.rf
  have hl := lv_entry ([.ref k0, .int x0, .float y]) (n := 4) (Nat.le_of_ble_eq_true rfl)
  rw [lg_entry_eq]
  generalize (lg_sl ([.ref k0, .int x0, .float y]) ++ List.replicate (4 - (lg_sl ([.ref k0, .int x0, .float y])).length) Slot.unset).toArray = ls at hl ⊢
  have hl : lv_has ls 4 [(0, .ref k0), (1, .int x0), (2, .float y)] := hl
  refine lv_iload_n hx hb dX1_wind_0 rfl (lv_at hl 1 rfl) ?_
  refine lv_iconst (v := nI 5) hx hb dX1_wind_1 (by decide) ?_
  refine rd_calli (va_runS (As := [.int x0, .int (nI 5)]) (rest := []) ⟨hx, hb, hml, hown, hts⟩ (c_X1_outside l x0 5 ) (va_cwS 2 hts gX1_wind_X1_outside rfl rfl rfl (by decide +kernel) ⟨Nat.le_of_ble_eq_true rfl, Nat.le_of_ble_eq_true rfl⟩) ⟨fun a U g mk q => q, fun U hU hW => ⟨rfl, trivial⟩⟩ rfl rfl hl.1 rfl (lv_room (Nat.le_of_ble_eq_true rfl)) dX1_wind_2 ⟨Nat.le_of_ble_eq_true rfl, Nat.le_of_ble_eq_true rfl⟩) (fun r_1 hr_1 => ?_)
  subst hr_1
  refine kb_ne (tgt := 16) hx hb dX1_wind_5 (by decide) (fun c_2 => ?_) (fun c_2 => ?_)
  · refine lv_iconst (v := nI 1) hx hb dX1_wind_16 (by decide) ?_
    refine lv_goto (tgt := 21) hx hb dX1_wind_17 (by decide) ?_
    refine lv_istore_n (lv' := [(3, .int (nI 1)), (0, .ref k0), (1, .int x0), (2, .float y)]) hx hb dX1_wind_21 rfl hl (by decide) rfl (fun ls hl => ?_)
    refine lv_aload_n hx hb dX1_wind_22 rfl (lv_at hl 1 rfl) ?_
    refine lv_iload_n hx hb dX1_wind_23 rfl (lv_at hl 0 rfl) ?_
    refine lv_iload_n hx hb dX1_wind_24 rfl (lv_at hl 0 rfl) ?_
    refine kn_ne (tgt := 47) hx hb (by decide) dX1_wind_25 (by decide) (fun _ => ?_) (fun h => absurd h (by decide))
    refine lv_iconst (v := nI 0) hx hb dX1_wind_47 (by decide) ?_
    refine lv_iconst (v := nI 0) hx hb dX1_wind_48 (by decide) ?_
    have hFc := va_free (wc := WM k0 kv ko ks km kt kp kb cZ cD cI th mv io sz mk se pv pd op mw) hD hS hA [0, 1, 2, 3, 4, 5, 6, 7] rfl
    refine wr_calli (va_runV (As := [.int (b2i true), .int (b2i false), .int (b2i false)]) (rest := []) ⟨hx, hb, hml, hown, hts⟩ (c_X1_throwing l D k0 kv ko ks km kt kp kb cZ cD cI th mv io sz mk se pv pd op mw hsz s.heap.size true false false ) (cwV 3 hts gX1_wind_X1_throwing rfl rfl rfl (by decide +kernel) ⟨Nat.le_of_ble_eq_true rfl, Nat.le_of_ble_eq_true rfl⟩) ⟨fun a U g mk q => ⟨q.1, q.2.1, q.2.2.1, va_K.moved (u := U) (U := U.calling g mk a) (Vm.Alike.refl U.vm) q.2.2.2.1, q.2.2.2.2⟩, va_recv hK hP (ci := 2) (q0 := 0) rfl rfl, fun U hU hW => ⟨rfl, by rw [hU], by rw [hU]; exact hP, va_K.moved hW.alike hK, hD.weaken (fun _ _ _ _ => trivial)⟩⟩ rfl rfl hl.1 rfl (lv_room (Nat.le_of_ble_eq_true rfl)) dX1_wind_49 ⟨Nat.le_of_ble_eq_true rfl, Nat.le_of_ble_eq_true rfl⟩) hS hFc (fun r_3 H locs hr_3 hP _ _ hS => ?_)
    subst hr_3
    refine kt_i (y := b2i true) rfl ?_
    have hD : va_D A (WM k0 kv ko ks km kt kp kb cZ cD cI (thr true false false) mv io sz mk se pv pd op mw) := va_D_same (ws := WM k0 kv ko ks km kt kp kb cZ cD cI th mv io sz mk se pv pd op mw) rfl hD
    have hP : va_P D vwCl (WM k0 kv ko ks km kt kp kb cZ cD cI (thr true false false) mv io sz mk se pv pd op mw) H := hP
    refine kb_eq (tgt := 57) hx hb dX1_wind_52 (by decide) (fun h => absurd h (by decide)) (fun _ => ?_)
    refine lv_iconst (v := nI 0) hx hb dX1_wind_55 (by decide) ?_
    refine W.widen (k := 0) (n := 0) (Nat.le_of_ble_eq_true rfl) (Nat.le_of_ble_eq_true rfl) ?_
    exact W.iret (v := nI 0) hx hb hr (fun t9 ht9 hW9 => ⟨⟨_, rfl, rfl, by rw [ht9]; exact hP⟩, hS.F ht9⟩) hS.2.2 dX1_wind_56
  · refine lv_fload_n hx hb dX1_wind_8 rfl (lv_at hl 2 rfl) ?_
    refine lv_f2d hx hb dX1_wind_9 hnn ?_
    refine rd_calli (va_runS (As := [.double (FP.f2d y)]) (rest := []) ⟨hx, hb, hml, hown, hts⟩ (c_X1_isWind l (FP.f2d y) ) (va_cwS 1 hts gX1_wind_X1_isWind rfl rfl rfl (by decide +kernel) ⟨Nat.le_of_ble_eq_true rfl, Nat.le_of_ble_eq_true rfl⟩) ⟨fun a U g mk q => q, fun U hU hW => ⟨rfl, trivial⟩⟩ rfl rfl hl.1 rfl (lv_room (Nat.le_of_ble_eq_true rfl)) dX1_wind_10 ⟨Nat.le_of_ble_eq_true rfl, Nat.le_of_ble_eq_true rfl⟩) (fun r_4 hr_4 => ?_)
    subst hr_4
    refine kb_ne (tgt := 20) hx hb dX1_wind_13 (by decide) (fun c_5 => ?_) (fun c_5 => ?_)
    · refine lv_iconst (v := nI 0) hx hb dX1_wind_20 (by decide) ?_
      exact absurd (show InN 6 x0 ∧ wnM (FP.f2d y) = true from ⟨outs_in (by decide) c_2, c_5⟩) hbad
    · refine lv_iconst (v := nI 1) hx hb dX1_wind_16 (by decide) ?_
      refine lv_goto (tgt := 21) hx hb dX1_wind_17 (by decide) ?_
      refine lv_istore_n (lv' := [(3, .int (nI 1)), (0, .ref k0), (1, .int x0), (2, .float y)]) hx hb dX1_wind_21 rfl hl (by decide) rfl (fun ls hl => ?_)
      refine lv_aload_n hx hb dX1_wind_22 rfl (lv_at hl 1 rfl) ?_
      refine lv_iload_n hx hb dX1_wind_23 rfl (lv_at hl 0 rfl) ?_
      refine lv_iload_n hx hb dX1_wind_24 rfl (lv_at hl 0 rfl) ?_
      refine kn_ne (tgt := 47) hx hb (by decide) dX1_wind_25 (by decide) (fun _ => ?_) (fun h => absurd h (by decide))
      refine lv_iconst (v := nI 0) hx hb dX1_wind_47 (by decide) ?_
      refine lv_iconst (v := nI 0) hx hb dX1_wind_48 (by decide) ?_
      have hFc := va_free (wc := WM k0 kv ko ks km kt kp kb cZ cD cI th mv io sz mk se pv pd op mw) hD hS hA [0, 1, 2, 3, 4, 5, 6, 7] rfl
      refine wr_calli (va_runV (As := [.int (b2i true), .int (b2i false), .int (b2i false)]) (rest := []) ⟨hx, hb, hml, hown, hts⟩ (c_X1_throwing l D k0 kv ko ks km kt kp kb cZ cD cI th mv io sz mk se pv pd op mw hsz s.heap.size true false false ) (cwV 3 hts gX1_wind_X1_throwing rfl rfl rfl (by decide +kernel) ⟨Nat.le_of_ble_eq_true rfl, Nat.le_of_ble_eq_true rfl⟩) ⟨fun a U g mk q => ⟨q.1, q.2.1, q.2.2.1, va_K.moved (u := U) (U := U.calling g mk a) (Vm.Alike.refl U.vm) q.2.2.2.1, q.2.2.2.2⟩, va_recv hK hP (ci := 2) (q0 := 0) rfl rfl, fun U hU hW => ⟨rfl, by rw [hU], by rw [hU]; exact hP, va_K.moved hW.alike hK, hD.weaken (fun _ _ _ _ => trivial)⟩⟩ rfl rfl hl.1 rfl (lv_room (Nat.le_of_ble_eq_true rfl)) dX1_wind_49 ⟨Nat.le_of_ble_eq_true rfl, Nat.le_of_ble_eq_true rfl⟩) hS hFc (fun r_6 H locs hr_6 hP _ _ hS => ?_)
      subst hr_6
      refine kt_i (y := b2i true) rfl ?_
      have hD : va_D A (WM k0 kv ko ks km kt kp kb cZ cD cI (thr true false false) mv io sz mk se pv pd op mw) := va_D_same (ws := WM k0 kv ko ks km kt kp kb cZ cD cI th mv io sz mk se pv pd op mw) rfl hD
      have hP : va_P D vwCl (WM k0 kv ko ks km kt kp kb cZ cD cI (thr true false false) mv io sz mk se pv pd op mw) H := hP
      refine kb_eq (tgt := 57) hx hb dX1_wind_52 (by decide) (fun h => absurd h (by decide)) (fun _ => ?_)
      refine lv_iconst (v := nI 0) hx hb dX1_wind_55 (by decide) ?_
      refine W.widen (k := 0) (n := 0) (Nat.le_of_ble_eq_true rfl) (Nat.le_of_ble_eq_true rfl) ?_
      exact W.iret (v := nI 0) hx hb hr (fun t9 ht9 hW9 => ⟨⟨_, rfl, rfl, by rw [ht9]; exact hP⟩, hS.F ht9⟩) hS.2.2 dX1_wind_56
set_option maxHeartbeats 4000000 in
set_option maxRecDepth 100000 in
theorem c_X1_out_bad (l : Launch) (D : va_G) (k0 kv ko ks km kt kp kb : Nat) (cZ cD cI : ClassId) (th : Nat) (mv : Nat → UInt64) (io : Nat → Bool) (sz : Nat → Nat) (mk : Nat → UInt64) (se : Nat → Bool) (pv : Nat → UInt64) (pd : Nat → Bool) (op : Bool) (mw : Int32) (hsz : ∀ j, sz j ≤ 12) (zz : Nat) (x0 : Int32) (x1 : Int32) (hbad : ¬ (InN 6 x0 ∧ InN 2 x1)) : Met l yX1_out wsX1_out ({ frames := 1, cells := 0, slots := 0, locals := 23 }) (va_Pc [.ref k0, .int x0, .int x1] (fun U => U.heap.size = zz ∧ va_P D vwCl (WM k0 kv ko ks km kt kp kb cZ cD cI th mv io sz mk se pv pd op mw) U.heap ∧ va_K D vwCl (TY cZ cD cI) U ∧ va_D (fun _ => True) (WM k0 kv ko ks km kt kp kb cZ cD cI th mv io sz mk se pv pd op mw))) (wr_Qi (fun r => r = nI 0) (fun H => va_P D vwCl (WM k0 kv ko ks km kt kp kb cZ cD cI (thr true false false) mv io sz mk se pv pd op mw) H) (va_A (WM k0 kv ko ks km kt kp kb cZ cD cI th mv io sz mk se pv pd op mw) zz))  0 0 (va_A (WM k0 kv ko ks km kt kp kb cZ cD cI th mv io sz mk se pv pd op mw) zz) := by
  refine Met.ofW (cc := cX1_out) (maxL := 4) (ret := some .int) (by decide) rfl ?_
  intro p e s m args below meth c s₁ B hml hv
  obtain ⟨rfl, hsz_, hP, hK, hD0⟩ := hv
  have hx := B.exec
  have hb := B.bytes
  have hr := B.returns
  have hts := atoms_spec (ws := wsX1_out) B.pre
  have hown : s.vm.findClass RX1 = some m.cls := findClass_of_methodNamed B.named
  have hlocks := B.notSynchronized
  subst hsz_
  have hD := hD0.self (sz := s.heap.size)
  generalize hAe : va_A (WM k0 kv ko ks km kt kp kb cZ cD cI th mv io sz mk se pv pd op mw) s.heap.size = A at hD ⊢
  have hA : ∀ q : Nat, s.heap.size ≤ q → A q := fun q h => by rw [← hAe]; exact Or.inr h
  have hS : va_S A s.heap s.heap [] := va_S.rf
  have hl := lv_entry ([.ref k0, .int x0, .int x1]) (n := 4) (Nat.le_of_ble_eq_true rfl)
  rw [lg_entry_eq]
  generalize (lg_sl ([.ref k0, .int x0, .int x1]) ++ List.replicate (4 - (lg_sl ([.ref k0, .int x0, .int x1])).length) Slot.unset).toArray = ls at hl ⊢
  have hl : lv_has ls 4 [(0, .ref k0), (1, .int x0), (2, .int x1)] := hl
  refine lv_iload_n hx hb dX1_out_0 rfl (lv_at hl 1 rfl) ?_
  refine lv_iconst (v := nI 5) hx hb dX1_out_1 (by decide) ?_
  refine rd_calli (va_runS (As := [.int x0, .int (nI 5)]) (rest := []) ⟨hx, hb, hml, hown, hts⟩ (c_X1_outside l x0 5 ) (va_cwS 2 hts gX1_out_X1_outside rfl rfl rfl (by decide +kernel) ⟨Nat.le_of_ble_eq_true rfl, Nat.le_of_ble_eq_true rfl⟩) ⟨fun a U g mk q => q, fun U hU hW => ⟨rfl, trivial⟩⟩ rfl rfl hl.1 rfl (lv_room (Nat.le_of_ble_eq_true rfl)) dX1_out_2 ⟨Nat.le_of_ble_eq_true rfl, Nat.le_of_ble_eq_true rfl⟩) (fun r_1 hr_1 => ?_)
  subst hr_1
  refine kb_ne (tgt := 16) hx hb dX1_out_5 (by decide) (fun c_2 => ?_) (fun c_2 => ?_)
  · refine lv_iconst (v := nI 1) hx hb dX1_out_16 (by decide) ?_
    refine lv_goto (tgt := 21) hx hb dX1_out_17 (by decide) ?_
    refine lv_istore_n (lv' := [(3, .int (nI 1)), (0, .ref k0), (1, .int x0), (2, .int x1)]) hx hb dX1_out_21 rfl hl (by decide) rfl (fun ls hl => ?_)
    refine lv_aload_n hx hb dX1_out_22 rfl (lv_at hl 1 rfl) ?_
    refine lv_iload_n hx hb dX1_out_23 rfl (lv_at hl 0 rfl) ?_
    refine lv_iload_n hx hb dX1_out_24 rfl (lv_at hl 0 rfl) ?_
    refine kn_ne (tgt := 47) hx hb (by decide) dX1_out_25 (by decide) (fun _ => ?_) (fun h => absurd h (by decide))
    refine lv_iconst (v := nI 0) hx hb dX1_out_47 (by decide) ?_
    refine lv_iconst (v := nI 0) hx hb dX1_out_48 (by decide) ?_
    have hFc := va_free (wc := WM k0 kv ko ks km kt kp kb cZ cD cI th mv io sz mk se pv pd op mw) hD hS hA [0, 1, 2, 3, 4, 5, 6, 7] rfl
    refine wr_calli (va_runV (As := [.int (b2i true), .int (b2i false), .int (b2i false)]) (rest := []) ⟨hx, hb, hml, hown, hts⟩ (c_X1_throwing l D k0 kv ko ks km kt kp kb cZ cD cI th mv io sz mk se pv pd op mw hsz s.heap.size true false false ) (cwV 3 hts gX1_out_X1_throwing rfl rfl rfl (by decide +kernel) ⟨Nat.le_of_ble_eq_true rfl, Nat.le_of_ble_eq_true rfl⟩) ⟨fun a U g mk q => ⟨q.1, q.2.1, q.2.2.1, va_K.moved (u := U) (U := U.calling g mk a) (Vm.Alike.refl U.vm) q.2.2.2.1, q.2.2.2.2⟩, va_recv hK hP (ci := 2) (q0 := 0) rfl rfl, fun U hU hW => ⟨rfl, by rw [hU], by rw [hU]; exact hP, va_K.moved hW.alike hK, hD.weaken (fun _ _ _ _ => trivial)⟩⟩ rfl rfl hl.1 rfl (lv_room (Nat.le_of_ble_eq_true rfl)) dX1_out_49 ⟨Nat.le_of_ble_eq_true rfl, Nat.le_of_ble_eq_true rfl⟩) hS hFc (fun r_3 H locs hr_3 hP _ _ hS => ?_)
    subst hr_3
    refine kt_i (y := b2i true) rfl ?_
    have hD : va_D A (WM k0 kv ko ks km kt kp kb cZ cD cI (thr true false false) mv io sz mk se pv pd op mw) := va_D_same (ws := WM k0 kv ko ks km kt kp kb cZ cD cI th mv io sz mk se pv pd op mw) rfl hD
    have hP : va_P D vwCl (WM k0 kv ko ks km kt kp kb cZ cD cI (thr true false false) mv io sz mk se pv pd op mw) H := hP
    refine kb_eq (tgt := 57) hx hb dX1_out_52 (by decide) (fun h => absurd h (by decide)) (fun _ => ?_)
    refine lv_iconst (v := nI 0) hx hb dX1_out_55 (by decide) ?_
    refine W.widen (k := 0) (n := 0) (Nat.le_of_ble_eq_true rfl) (Nat.le_of_ble_eq_true rfl) ?_
    exact W.iret (v := nI 0) hx hb hr (fun t9 ht9 hW9 => ⟨⟨_, rfl, rfl, by rw [ht9]; exact hP⟩, hS.F ht9⟩) hS.2.2 dX1_out_56
  · refine lv_iload_n hx hb dX1_out_8 rfl (lv_at hl 2 rfl) ?_
    refine lv_iconst (v := nI 1) hx hb dX1_out_9 (by decide) ?_
    refine rd_calli (va_runS (As := [.int x1, .int (nI 1)]) (rest := []) ⟨hx, hb, hml, hown, hts⟩ (c_X1_outside l x1 1 ) (va_cwS 2 hts gX1_out_X1_outside rfl rfl rfl (by decide +kernel) ⟨Nat.le_of_ble_eq_true rfl, Nat.le_of_ble_eq_true rfl⟩) ⟨fun a U g mk q => q, fun U hU hW => ⟨rfl, trivial⟩⟩ rfl rfl hl.1 rfl (lv_room (Nat.le_of_ble_eq_true rfl)) dX1_out_10 ⟨Nat.le_of_ble_eq_true rfl, Nat.le_of_ble_eq_true rfl⟩) (fun r_4 hr_4 => ?_)
    subst hr_4
    refine kb_eq (tgt := 20) hx hb dX1_out_13 (by decide) (fun c_5 => ?_) (fun c_5 => ?_)
    · refine lv_iconst (v := nI 0) hx hb dX1_out_20 (by decide) ?_
      exact absurd (show InN 6 x0 ∧ InN 2 x1 from ⟨outs_in (by decide) c_2, outs_in (by decide) c_5⟩) hbad
    · refine lv_iconst (v := nI 1) hx hb dX1_out_16 (by decide) ?_
      refine lv_goto (tgt := 21) hx hb dX1_out_17 (by decide) ?_
      refine lv_istore_n (lv' := [(3, .int (nI 1)), (0, .ref k0), (1, .int x0), (2, .int x1)]) hx hb dX1_out_21 rfl hl (by decide) rfl (fun ls hl => ?_)
      refine lv_aload_n hx hb dX1_out_22 rfl (lv_at hl 1 rfl) ?_
      refine lv_iload_n hx hb dX1_out_23 rfl (lv_at hl 0 rfl) ?_
      refine lv_iload_n hx hb dX1_out_24 rfl (lv_at hl 0 rfl) ?_
      refine kn_ne (tgt := 47) hx hb (by decide) dX1_out_25 (by decide) (fun _ => ?_) (fun h => absurd h (by decide))
      refine lv_iconst (v := nI 0) hx hb dX1_out_47 (by decide) ?_
      refine lv_iconst (v := nI 0) hx hb dX1_out_48 (by decide) ?_
      have hFc := va_free (wc := WM k0 kv ko ks km kt kp kb cZ cD cI th mv io sz mk se pv pd op mw) hD hS hA [0, 1, 2, 3, 4, 5, 6, 7] rfl
      refine wr_calli (va_runV (As := [.int (b2i true), .int (b2i false), .int (b2i false)]) (rest := []) ⟨hx, hb, hml, hown, hts⟩ (c_X1_throwing l D k0 kv ko ks km kt kp kb cZ cD cI th mv io sz mk se pv pd op mw hsz s.heap.size true false false ) (cwV 3 hts gX1_out_X1_throwing rfl rfl rfl (by decide +kernel) ⟨Nat.le_of_ble_eq_true rfl, Nat.le_of_ble_eq_true rfl⟩) ⟨fun a U g mk q => ⟨q.1, q.2.1, q.2.2.1, va_K.moved (u := U) (U := U.calling g mk a) (Vm.Alike.refl U.vm) q.2.2.2.1, q.2.2.2.2⟩, va_recv hK hP (ci := 2) (q0 := 0) rfl rfl, fun U hU hW => ⟨rfl, by rw [hU], by rw [hU]; exact hP, va_K.moved hW.alike hK, hD.weaken (fun _ _ _ _ => trivial)⟩⟩ rfl rfl hl.1 rfl (lv_room (Nat.le_of_ble_eq_true rfl)) dX1_out_49 ⟨Nat.le_of_ble_eq_true rfl, Nat.le_of_ble_eq_true rfl⟩) hS hFc (fun r_6 H locs hr_6 hP _ _ hS => ?_)
      subst hr_6
      refine kt_i (y := b2i true) rfl ?_
      have hD : va_D A (WM k0 kv ko ks km kt kp kb cZ cD cI (thr true false false) mv io sz mk se pv pd op mw) := va_D_same (ws := WM k0 kv ko ks km kt kp kb cZ cD cI th mv io sz mk se pv pd op mw) rfl hD
      have hP : va_P D vwCl (WM k0 kv ko ks km kt kp kb cZ cD cI (thr true false false) mv io sz mk se pv pd op mw) H := hP
      refine kb_eq (tgt := 57) hx hb dX1_out_52 (by decide) (fun h => absurd h (by decide)) (fun _ => ?_)
      refine lv_iconst (v := nI 0) hx hb dX1_out_55 (by decide) ?_
      refine W.widen (k := 0) (n := 0) (Nat.le_of_ble_eq_true rfl) (Nat.le_of_ble_eq_true rfl) ?_
      exact W.iret (v := nI 0) hx hb hr (fun t9 ht9 hW9 => ⟨⟨_, rfl, rfl, by rw [ht9]; exact hP⟩, hS.F ht9⟩) hS.2.2 dX1_out_56
set_option maxHeartbeats 4000000 in
set_option maxRecDepth 100000 in
theorem c_X1_clear_bad (l : Launch) (D : va_G) (k0 kv ko ks km kt kp kb : Nat) (cZ cD cI : ClassId) (th : Nat) (mv : Nat → UInt64) (io : Nat → Bool) (sz : Nat → Nat) (mk : Nat → UInt64) (se : Nat → Bool) (pv : Nat → UInt64) (pd : Nat → Bool) (op : Bool) (mw : Int32) (hsz : ∀ j, sz j ≤ 12) (zz : Nat) (x0 : Int32) (hbad : ¬ (InN 6 x0)) : Met l yX1_clear wsX1_clear ({ frames := 1, cells := 0, slots := 0, locals := 23 }) (va_Pc [.ref k0, .int x0] (fun U => U.heap.size = zz ∧ va_P D vwCl (WM k0 kv ko ks km kt kp kb cZ cD cI th mv io sz mk se pv pd op mw) U.heap ∧ va_K D vwCl (TY cZ cD cI) U ∧ va_D (fun _ => True) (WM k0 kv ko ks km kt kp kb cZ cD cI th mv io sz mk se pv pd op mw))) (wr_Qi (fun r => r = nI 0) (fun H => va_P D vwCl (WM k0 kv ko ks km kt kp kb cZ cD cI (thr true false false) mv io sz mk se pv pd op mw) H) (va_A (WM k0 kv ko ks km kt kp kb cZ cD cI th mv io sz mk se pv pd op mw) zz))  0 0 (va_A (WM k0 kv ko ks km kt kp kb cZ cD cI th mv io sz mk se pv pd op mw) zz) := by
  refine Met.ofW (cc := cX1_clear) (maxL := 3) (ret := some .int) (by decide) rfl ?_
  intro p e s m args below meth c s₁ B hml hv
  obtain ⟨rfl, hsz_, hP, hK, hD0⟩ := hv
  have hx := B.exec
  have hb := B.bytes
  have hr := B.returns
  have hts := atoms_spec (ws := wsX1_clear) B.pre
  have hown : s.vm.findClass RX1 = some m.cls := findClass_of_methodNamed B.named
  have hlocks := B.notSynchronized
  subst hsz_
  have hD := hD0.self (sz := s.heap.size)
  generalize hAe : va_A (WM k0 kv ko ks km kt kp kb cZ cD cI th mv io sz mk se pv pd op mw) s.heap.size = A at hD ⊢
  have hA : ∀ q : Nat, s.heap.size ≤ q → A q := fun q h => by rw [← hAe]; exact Or.inr h
  have hS : va_S A s.heap s.heap [] := va_S.rf
  have hl := lv_entry ([.ref k0, .int x0]) (n := 3) (Nat.le_of_ble_eq_true rfl)
  rw [lg_entry_eq]
  generalize (lg_sl ([.ref k0, .int x0]) ++ List.replicate (3 - (lg_sl ([.ref k0, .int x0])).length) Slot.unset).toArray = ls at hl ⊢
  have hl : lv_has ls 3 [(0, .ref k0), (1, .int x0)] := hl
  refine lv_aload_n hx hb dX1_clear_0 rfl (lv_at hl 0 rfl) ?_
  refine lv_iload_n hx hb dX1_clear_1 rfl (lv_at hl 1 rfl) ?_
  refine lv_iconst (v := nI 5) hx hb dX1_clear_2 (by decide) ?_
  refine rd_calli (va_runS (As := [.int x0, .int (nI 5)]) (rest := [.ref k0]) ⟨hx, hb, hml, hown, hts⟩ (c_X1_outside l x0 5 ) (va_cwS 2 hts gX1_clear_X1_outside rfl rfl rfl (by decide +kernel) ⟨Nat.le_of_ble_eq_true rfl, Nat.le_of_ble_eq_true rfl⟩) ⟨fun a U g mk q => q, fun U hU hW => ⟨rfl, trivial⟩⟩ rfl rfl hl.1 rfl (lv_room (Nat.le_of_ble_eq_true rfl)) dX1_clear_3 ⟨Nat.le_of_ble_eq_true rfl, Nat.le_of_ble_eq_true rfl⟩) (fun r_1 hr_1 => ?_)
  subst hr_1
  refine kt_i (y := b2i true) (congrArg b2i (outs_out (by decide) hbad)) ?_
  refine lv_iconst (v := nI 0) hx hb dX1_clear_6 (by decide) ?_
  refine lv_iconst (v := nI 0) hx hb dX1_clear_7 (by decide) ?_
  have hFc := va_free (wc := WM k0 kv ko ks km kt kp kb cZ cD cI th mv io sz mk se pv pd op mw) hD hS hA [0, 1, 2, 3, 4, 5, 6, 7] rfl
  refine wr_calli (va_runV (As := [.int (b2i true), .int (b2i false), .int (b2i false)]) (rest := []) ⟨hx, hb, hml, hown, hts⟩ (c_X1_throwing l D k0 kv ko ks km kt kp kb cZ cD cI th mv io sz mk se pv pd op mw hsz s.heap.size true false false ) (cwV 3 hts gX1_clear_X1_throwing rfl rfl rfl (by decide +kernel) ⟨Nat.le_of_ble_eq_true rfl, Nat.le_of_ble_eq_true rfl⟩) ⟨fun a U g mk q => ⟨q.1, q.2.1, q.2.2.1, va_K.moved (u := U) (U := U.calling g mk a) (Vm.Alike.refl U.vm) q.2.2.2.1, q.2.2.2.2⟩, va_recv hK hP (ci := 2) (q0 := 0) rfl rfl, fun U hU hW => ⟨rfl, by rw [hU], by rw [hU]; exact hP, va_K.moved hW.alike hK, hD.weaken (fun _ _ _ _ => trivial)⟩⟩ rfl rfl hl.1 rfl (lv_room (Nat.le_of_ble_eq_true rfl)) dX1_clear_8 ⟨Nat.le_of_ble_eq_true rfl, Nat.le_of_ble_eq_true rfl⟩) hS hFc (fun r_2 H locs hr_2 hP _ _ hS => ?_)
  subst hr_2
  refine kt_i (y := b2i true) rfl ?_
  have hD : va_D A (WM k0 kv ko ks km kt kp kb cZ cD cI (thr true false false) mv io sz mk se pv pd op mw) := va_D_same (ws := WM k0 kv ko ks km kt kp kb cZ cD cI th mv io sz mk se pv pd op mw) rfl hD
  have hP : va_P D vwCl (WM k0 kv ko ks km kt kp kb cZ cD cI (thr true false false) mv io sz mk se pv pd op mw) H := hP
  refine kb_eq (tgt := 16) hx hb dX1_clear_11 (by decide) (fun h => absurd h (by decide)) (fun _ => ?_)
  refine lv_iconst (v := nI 0) hx hb dX1_clear_14 (by decide) ?_
  refine W.widen (k := 0) (n := 0) (Nat.le_of_ble_eq_true rfl) (Nat.le_of_ble_eq_true rfl) ?_
  exact W.iret (v := nI 0) hx hb hr (fun t9 ht9 hW9 => ⟨⟨_, rfl, rfl, by rw [ht9]; exact hP⟩, hS.F ht9⟩) hS.2.2 dX1_clear_15
set_option maxHeartbeats 4000000 in
set_option maxRecDepth 100000 in
theorem c_X1_mark_bad (l : Launch) (D : va_G) (k0 kv ko ks km kt kp kb : Nat) (cZ cD cI : ClassId) (th : Nat) (mv : Nat → UInt64) (io : Nat → Bool) (sz : Nat → Nat) (mk : Nat → UInt64) (se : Nat → Bool) (pv : Nat → UInt64) (pd : Nat → Bool) (op : Bool) (mw : Int32) (hsz : ∀ j, sz j ≤ 12) (zz : Nat) (x0 : Int32) (x1 : Int32) (y : UInt64) (hbad : ¬ (InN 6 x0 ∧ InN 2 x1 ∧ lvl y = true)) : Met l yX1_mark wsX1_mark ({ frames := 1, cells := 0, slots := 0, locals := 23 }) (va_Pc [.ref k0, .int x0, .int x1, .double y] (fun U => U.heap.size = zz ∧ va_P D vwCl (WM k0 kv ko ks km kt kp kb cZ cD cI th mv io sz mk se pv pd op mw) U.heap ∧ va_K D vwCl (TY cZ cD cI) U ∧ va_D (fun _ => True) (WM k0 kv ko ks km kt kp kb cZ cD cI th mv io sz mk se pv pd op mw))) (wr_Qi (fun r => r = b2i false) (fun H => va_P D vwCl (WM k0 kv ko ks km kt kp kb cZ cD cI (thr true false false) mv io sz mk se pv pd op mw) H) (va_A (WM k0 kv ko ks km kt kp kb cZ cD cI th mv io sz mk se pv pd op mw) zz))  0 0 (va_A (WM k0 kv ko ks km kt kp kb cZ cD cI th mv io sz mk se pv pd op mw) zz) := by
  refine Met.ofW (cc := cX1_mark) (maxL := 5) (ret := some .boolean) (by decide) rfl ?_
  intro p e s m args below meth c s₁ B hml hv
  obtain ⟨rfl, hsz_, hP, hK, hD0⟩ := hv
  have hx := B.exec
  have hb := B.bytes
  have hr := B.returns
  have hts := atoms_spec (ws := wsX1_mark) B.pre
  have hown : s.vm.findClass RX1 = some m.cls := findClass_of_methodNamed B.named
  have hlocks := B.notSynchronized
  subst hsz_
  have hD := hD0.self (sz := s.heap.size)
  generalize hAe : va_A (WM k0 kv ko ks km kt kp kb cZ cD cI th mv io sz mk se pv pd op mw) s.heap.size = A at hD ⊢
  have hA : ∀ q : Nat, s.heap.size ≤ q → A q := fun q h => by rw [← hAe]; exact Or.inr h
  have hS : va_S A s.heap s.heap [] := va_S.rf
  have hl := lv_entry ([.ref k0, .int x0, .int x1, .double y]) (n := 5) (Nat.le_of_ble_eq_true rfl)
  rw [lg_entry_eq]
  generalize (lg_sl ([.ref k0, .int x0, .int x1, .double y]) ++ List.replicate (5 - (lg_sl ([.ref k0, .int x0, .int x1, .double y])).length) Slot.unset).toArray = ls at hl ⊢
  have hl : lv_has ls 5 [(0, .ref k0), (1, .int x0), (2, .int x1), (3, .double y)] := hl
  refine lv_aload_n hx hb dX1_mark_0 rfl (lv_at hl 0 rfl) ?_
  refine lv_iload_n hx hb dX1_mark_1 rfl (lv_at hl 1 rfl) ?_
  refine lv_iconst (v := nI 5) hx hb dX1_mark_2 (by decide) ?_
  refine rd_calli (va_runS (As := [.int x0, .int (nI 5)]) (rest := [.ref k0]) ⟨hx, hb, hml, hown, hts⟩ (c_X1_outside l x0 5 ) (va_cwS 2 hts gX1_mark_X1_outside rfl rfl rfl (by decide +kernel) ⟨Nat.le_of_ble_eq_true rfl, Nat.le_of_ble_eq_true rfl⟩) ⟨fun a U g mk q => q, fun U hU hW => ⟨rfl, trivial⟩⟩ rfl rfl hl.1 rfl (lv_room (Nat.le_of_ble_eq_true rfl)) dX1_mark_3 ⟨Nat.le_of_ble_eq_true rfl, Nat.le_of_ble_eq_true rfl⟩) (fun r_1 hr_1 => ?_)
  subst hr_1
  refine kb_ne (tgt := 24) hx hb dX1_mark_6 (by decide) (fun c_2 => ?_) (fun c_2 => ?_)
  · refine lv_iconst (v := nI 1) hx hb dX1_mark_24 (by decide) ?_
    refine lv_goto (tgt := 29) hx hb dX1_mark_25 (by decide) ?_
    refine lv_iconst (v := nI 0) hx hb dX1_mark_29 (by decide) ?_
    refine lv_iconst (v := nI 0) hx hb dX1_mark_30 (by decide) ?_
    have hFc := va_free (wc := WM k0 kv ko ks km kt kp kb cZ cD cI th mv io sz mk se pv pd op mw) hD hS hA [0, 1, 2, 3, 4, 5, 6, 7] rfl
    refine wr_calli (va_runV (As := [.int (b2i true), .int (b2i false), .int (b2i false)]) (rest := []) ⟨hx, hb, hml, hown, hts⟩ (c_X1_throwing l D k0 kv ko ks km kt kp kb cZ cD cI th mv io sz mk se pv pd op mw hsz s.heap.size true false false ) (cwV 3 hts gX1_mark_X1_throwing rfl rfl rfl (by decide +kernel) ⟨Nat.le_of_ble_eq_true rfl, Nat.le_of_ble_eq_true rfl⟩) ⟨fun a U g mk q => ⟨q.1, q.2.1, q.2.2.1, va_K.moved (u := U) (U := U.calling g mk a) (Vm.Alike.refl U.vm) q.2.2.2.1, q.2.2.2.2⟩, va_recv hK hP (ci := 2) (q0 := 0) rfl rfl, fun U hU hW => ⟨rfl, by rw [hU], by rw [hU]; exact hP, va_K.moved hW.alike hK, hD.weaken (fun _ _ _ _ => trivial)⟩⟩ rfl rfl hl.1 rfl (lv_room (Nat.le_of_ble_eq_true rfl)) dX1_mark_31 ⟨Nat.le_of_ble_eq_true rfl, Nat.le_of_ble_eq_true rfl⟩) hS hFc (fun r_3 H locs hr_3 hP _ _ hS => ?_)
    subst hr_3
    refine kt_i (y := b2i true) rfl ?_
    have hD : va_D A (WM k0 kv ko ks km kt kp kb cZ cD cI (thr true false false) mv io sz mk se pv pd op mw) := va_D_same (ws := WM k0 kv ko ks km kt kp kb cZ cD cI th mv io sz mk se pv pd op mw) rfl hD
    have hP : va_P D vwCl (WM k0 kv ko ks km kt kp kb cZ cD cI (thr true false false) mv io sz mk se pv pd op mw) H := hP
    refine kb_eq (tgt := 39) hx hb dX1_mark_34 (by decide) (fun h => absurd h (by decide)) (fun _ => ?_)
    refine lv_iconst (v := nI 0) hx hb dX1_mark_37 (by decide) ?_
    refine kt_i (y := b2i false) rfl ?_
    refine W.widen (k := 0) (n := 0) (Nat.le_of_ble_eq_true rfl) (Nat.le_of_ble_eq_true rfl) ?_
    exact W.zret (v := b2i false) hx hb hr (b2i_nar _) (fun t9 ht9 hW9 => ⟨⟨_, rfl, rfl, by rw [ht9]; exact hP⟩, hS.F ht9⟩) hS.2.2 dX1_mark_38
  · refine lv_iload_n hx hb dX1_mark_9 rfl (lv_at hl 2 rfl) ?_
    refine lv_iconst (v := nI 1) hx hb dX1_mark_10 (by decide) ?_
    refine rd_calli (va_runS (As := [.int x1, .int (nI 1)]) (rest := [.ref k0]) ⟨hx, hb, hml, hown, hts⟩ (c_X1_outside l x1 1 ) (va_cwS 2 hts gX1_mark_X1_outside rfl rfl rfl (by decide +kernel) ⟨Nat.le_of_ble_eq_true rfl, Nat.le_of_ble_eq_true rfl⟩) ⟨fun a U g mk q => q, fun U hU hW => ⟨rfl, trivial⟩⟩ rfl rfl hl.1 rfl (lv_room (Nat.le_of_ble_eq_true rfl)) dX1_mark_11 ⟨Nat.le_of_ble_eq_true rfl, Nat.le_of_ble_eq_true rfl⟩) (fun r_4 hr_4 => ?_)
    subst hr_4
    refine kb_ne (tgt := 24) hx hb dX1_mark_14 (by decide) (fun c_5 => ?_) (fun c_5 => ?_)
    · refine lv_iconst (v := nI 1) hx hb dX1_mark_24 (by decide) ?_
      refine lv_goto (tgt := 29) hx hb dX1_mark_25 (by decide) ?_
      refine lv_iconst (v := nI 0) hx hb dX1_mark_29 (by decide) ?_
      refine lv_iconst (v := nI 0) hx hb dX1_mark_30 (by decide) ?_
      have hFc := va_free (wc := WM k0 kv ko ks km kt kp kb cZ cD cI th mv io sz mk se pv pd op mw) hD hS hA [0, 1, 2, 3, 4, 5, 6, 7] rfl
      refine wr_calli (va_runV (As := [.int (b2i true), .int (b2i false), .int (b2i false)]) (rest := []) ⟨hx, hb, hml, hown, hts⟩ (c_X1_throwing l D k0 kv ko ks km kt kp kb cZ cD cI th mv io sz mk se pv pd op mw hsz s.heap.size true false false ) (cwV 3 hts gX1_mark_X1_throwing rfl rfl rfl (by decide +kernel) ⟨Nat.le_of_ble_eq_true rfl, Nat.le_of_ble_eq_true rfl⟩) ⟨fun a U g mk q => ⟨q.1, q.2.1, q.2.2.1, va_K.moved (u := U) (U := U.calling g mk a) (Vm.Alike.refl U.vm) q.2.2.2.1, q.2.2.2.2⟩, va_recv hK hP (ci := 2) (q0 := 0) rfl rfl, fun U hU hW => ⟨rfl, by rw [hU], by rw [hU]; exact hP, va_K.moved hW.alike hK, hD.weaken (fun _ _ _ _ => trivial)⟩⟩ rfl rfl hl.1 rfl (lv_room (Nat.le_of_ble_eq_true rfl)) dX1_mark_31 ⟨Nat.le_of_ble_eq_true rfl, Nat.le_of_ble_eq_true rfl⟩) hS hFc (fun r_6 H locs hr_6 hP _ _ hS => ?_)
      subst hr_6
      refine kt_i (y := b2i true) rfl ?_
      have hD : va_D A (WM k0 kv ko ks km kt kp kb cZ cD cI (thr true false false) mv io sz mk se pv pd op mw) := va_D_same (ws := WM k0 kv ko ks km kt kp kb cZ cD cI th mv io sz mk se pv pd op mw) rfl hD
      have hP : va_P D vwCl (WM k0 kv ko ks km kt kp kb cZ cD cI (thr true false false) mv io sz mk se pv pd op mw) H := hP
      refine kb_eq (tgt := 39) hx hb dX1_mark_34 (by decide) (fun h => absurd h (by decide)) (fun _ => ?_)
      refine lv_iconst (v := nI 0) hx hb dX1_mark_37 (by decide) ?_
      refine kt_i (y := b2i false) rfl ?_
      refine W.widen (k := 0) (n := 0) (Nat.le_of_ble_eq_true rfl) (Nat.le_of_ble_eq_true rfl) ?_
      exact W.zret (v := b2i false) hx hb hr (b2i_nar _) (fun t9 ht9 hW9 => ⟨⟨_, rfl, rfl, by rw [ht9]; exact hP⟩, hS.F ht9⟩) hS.2.2 dX1_mark_38
    · refine lv_dload_n hx hb dX1_mark_17 rfl (lv_at hl 3 rfl) ?_
      refine rd_calli (va_runS (As := [.double y]) (rest := [.ref k0]) ⟨hx, hb, hml, hown, hts⟩ (c_X1_isLevel l y ) (va_cwS 1 hts gX1_mark_X1_isLevel rfl rfl rfl (by decide +kernel) ⟨Nat.le_of_ble_eq_true rfl, Nat.le_of_ble_eq_true rfl⟩) ⟨fun a U g mk q => q, fun U hU hW => ⟨rfl, trivial⟩⟩ rfl rfl hl.1 rfl (lv_room (Nat.le_of_ble_eq_true rfl)) dX1_mark_18 ⟨Nat.le_of_ble_eq_true rfl, Nat.le_of_ble_eq_true rfl⟩) (fun r_7 hr_7 => ?_)
      subst hr_7
      refine kb_ne (tgt := 28) hx hb dX1_mark_21 (by decide) (fun c_8 => ?_) (fun c_8 => ?_)
      · refine lv_iconst (v := nI 0) hx hb dX1_mark_28 (by decide) ?_
        exact absurd (show InN 6 x0 ∧ InN 2 x1 ∧ lvl y = true from ⟨outs_in (by decide) c_2, outs_in (by decide) c_5, c_8⟩) hbad
      · refine lv_iconst (v := nI 1) hx hb dX1_mark_24 (by decide) ?_
        refine lv_goto (tgt := 29) hx hb dX1_mark_25 (by decide) ?_
        refine lv_iconst (v := nI 0) hx hb dX1_mark_29 (by decide) ?_
        refine lv_iconst (v := nI 0) hx hb dX1_mark_30 (by decide) ?_
        have hFc := va_free (wc := WM k0 kv ko ks km kt kp kb cZ cD cI th mv io sz mk se pv pd op mw) hD hS hA [0, 1, 2, 3, 4, 5, 6, 7] rfl
        refine wr_calli (va_runV (As := [.int (b2i true), .int (b2i false), .int (b2i false)]) (rest := []) ⟨hx, hb, hml, hown, hts⟩ (c_X1_throwing l D k0 kv ko ks km kt kp kb cZ cD cI th mv io sz mk se pv pd op mw hsz s.heap.size true false false ) (cwV 3 hts gX1_mark_X1_throwing rfl rfl rfl (by decide +kernel) ⟨Nat.le_of_ble_eq_true rfl, Nat.le_of_ble_eq_true rfl⟩) ⟨fun a U g mk q => ⟨q.1, q.2.1, q.2.2.1, va_K.moved (u := U) (U := U.calling g mk a) (Vm.Alike.refl U.vm) q.2.2.2.1, q.2.2.2.2⟩, va_recv hK hP (ci := 2) (q0 := 0) rfl rfl, fun U hU hW => ⟨rfl, by rw [hU], by rw [hU]; exact hP, va_K.moved hW.alike hK, hD.weaken (fun _ _ _ _ => trivial)⟩⟩ rfl rfl hl.1 rfl (lv_room (Nat.le_of_ble_eq_true rfl)) dX1_mark_31 ⟨Nat.le_of_ble_eq_true rfl, Nat.le_of_ble_eq_true rfl⟩) hS hFc (fun r_9 H locs hr_9 hP _ _ hS => ?_)
        subst hr_9
        refine kt_i (y := b2i true) rfl ?_
        have hD : va_D A (WM k0 kv ko ks km kt kp kb cZ cD cI (thr true false false) mv io sz mk se pv pd op mw) := va_D_same (ws := WM k0 kv ko ks km kt kp kb cZ cD cI th mv io sz mk se pv pd op mw) rfl hD
        have hP : va_P D vwCl (WM k0 kv ko ks km kt kp kb cZ cD cI (thr true false false) mv io sz mk se pv pd op mw) H := hP
        refine kb_eq (tgt := 39) hx hb dX1_mark_34 (by decide) (fun h => absurd h (by decide)) (fun _ => ?_)
        refine lv_iconst (v := nI 0) hx hb dX1_mark_37 (by decide) ?_
        refine kt_i (y := b2i false) rfl ?_
        refine W.widen (k := 0) (n := 0) (Nat.le_of_ble_eq_true rfl) (Nat.le_of_ble_eq_true rfl) ?_
        exact W.zret (v := b2i false) hx hb hr (b2i_nar _) (fun t9 ht9 hW9 => ⟨⟨_, rfl, rfl, by rw [ht9]; exact hP⟩, hS.F ht9⟩) hS.2.2 dX1_mark_38
set_option maxHeartbeats 4000000 in
set_option maxRecDepth 100000 in
theorem c_X1_gale_bad (l : Launch) (D : va_G) (k0 kv ko ks km kt kp kb : Nat) (cZ cD cI : ClassId) (th : Nat) (mv : Nat → UInt64) (io : Nat → Bool) (sz : Nat → Nat) (mk : Nat → UInt64) (se : Nat → Bool) (pv : Nat → UInt64) (pd : Nat → Bool) (op : Bool) (mw : Int32) (hsz : ∀ j, sz j ≤ 12) (zz : Nat) (x0 : Int32) (y : UInt32) (hnn : vf_n64 (FP.f2d y)) (hbad : ¬ (InN 6 x0 ∧ wnM (FP.f2d y) = true)) : Met l yX1_gale wsX1_gale ({ frames := 1, cells := 0, slots := 0, locals := 23 }) (va_Pc [.ref k0, .int x0, .float y] (fun U => U.heap.size = zz ∧ va_P D vwCl (WM k0 kv ko ks km kt kp kb cZ cD cI th mv io sz mk se pv pd op mw) U.heap ∧ va_K D vwCl (TY cZ cD cI) U ∧ va_D (fun _ => True) (WM k0 kv ko ks km kt kp kb cZ cD cI th mv io sz mk se pv pd op mw))) (wr_Qi (fun r => r = b2i false) (fun H => va_P D vwCl (WM k0 kv ko ks km kt kp kb cZ cD cI (thr true false false) mv io sz mk se pv pd op mw) H) (va_A (WM k0 kv ko ks km kt kp kb cZ cD cI th mv io sz mk se pv pd op mw) zz))  0 0 (va_A (WM k0 kv ko ks km kt kp kb cZ cD cI th mv io sz mk se pv pd op mw) zz) := by
  refine Met.ofW (cc := cX1_gale) (maxL := 3) (ret := some .boolean) (by decide) rfl ?_
  intro p e s m args below meth c s₁ B hml hv
  obtain ⟨rfl, hsz_, hP, hK, hD0⟩ := hv
  have hx := B.exec
  have hb := B.bytes
  have hr := B.returns
  have hts := atoms_spec (ws := wsX1_gale) B.pre
  have hown : s.vm.findClass RX1 = some m.cls := findClass_of_methodNamed B.named
  have hlocks := B.notSynchronized
  subst hsz_
  have hD := hD0.self (sz := s.heap.size)
  generalize hAe : va_A (WM k0 kv ko ks km kt kp kb cZ cD cI th mv io sz mk se pv pd op mw) s.heap.size = A at hD ⊢
  have hA : ∀ q : Nat, s.heap.size ≤ q → A q := fun q h => by rw [← hAe]; exact Or.inr h
  have hS : va_S A s.heap s.heap [] := va_S.rf
  have hl := lv_entry ([.ref k0, .int x0, .float y]) (n := 3) (Nat.le_of_ble_eq_true rfl)
  rw [lg_entry_eq]
  generalize (lg_sl ([.ref k0, .int x0, .float y]) ++ List.replicate (3 - (lg_sl ([.ref k0, .int x0, .float y])).length) Slot.unset).toArray = ls at hl ⊢
  have hl : lv_has ls 3 [(0, .ref k0), (1, .int x0), (2, .float y)] := hl
  refine lv_aload_n hx hb dX1_gale_0 rfl (lv_at hl 0 rfl) ?_
  refine lv_iload_n hx hb dX1_gale_1 rfl (lv_at hl 1 rfl) ?_
  refine lv_iconst (v := nI 5) hx hb dX1_gale_2 (by decide) ?_
  refine rd_calli (va_runS (As := [.int x0, .int (nI 5)]) (rest := [.ref k0]) ⟨hx, hb, hml, hown, hts⟩ (c_X1_outside l x0 5 ) (va_cwS 2 hts gX1_gale_X1_outside rfl rfl rfl (by decide +kernel) ⟨Nat.le_of_ble_eq_true rfl, Nat.le_of_ble_eq_true rfl⟩) ⟨fun a U g mk q => q, fun U hU hW => ⟨rfl, trivial⟩⟩ rfl rfl hl.1 rfl (lv_room (Nat.le_of_ble_eq_true rfl)) dX1_gale_3 ⟨Nat.le_of_ble_eq_true rfl, Nat.le_of_ble_eq_true rfl⟩) (fun r_1 hr_1 => ?_)
  subst hr_1
  refine kb_ne (tgt := 17) hx hb dX1_gale_6 (by decide) (fun c_2 => ?_) (fun c_2 => ?_)
  · refine lv_iconst (v := nI 1) hx hb dX1_gale_17 (by decide) ?_
    refine lv_goto (tgt := 22) hx hb dX1_gale_18 (by decide) ?_
    refine lv_iconst (v := nI 0) hx hb dX1_gale_22 (by decide) ?_
    refine lv_iconst (v := nI 0) hx hb dX1_gale_23 (by decide) ?_
    have hFc := va_free (wc := WM k0 kv ko ks km kt kp kb cZ cD cI th mv io sz mk se pv pd op mw) hD hS hA [0, 1, 2, 3, 4, 5, 6, 7] rfl
    refine wr_calli (va_runV (As := [.int (b2i true), .int (b2i false), .int (b2i false)]) (rest := []) ⟨hx, hb, hml, hown, hts⟩ (c_X1_throwing l D k0 kv ko ks km kt kp kb cZ cD cI th mv io sz mk se pv pd op mw hsz s.heap.size true false false ) (cwV 3 hts gX1_gale_X1_throwing rfl rfl rfl (by decide +kernel) ⟨Nat.le_of_ble_eq_true rfl, Nat.le_of_ble_eq_true rfl⟩) ⟨fun a U g mk q => ⟨q.1, q.2.1, q.2.2.1, va_K.moved (u := U) (U := U.calling g mk a) (Vm.Alike.refl U.vm) q.2.2.2.1, q.2.2.2.2⟩, va_recv hK hP (ci := 2) (q0 := 0) rfl rfl, fun U hU hW => ⟨rfl, by rw [hU], by rw [hU]; exact hP, va_K.moved hW.alike hK, hD.weaken (fun _ _ _ _ => trivial)⟩⟩ rfl rfl hl.1 rfl (lv_room (Nat.le_of_ble_eq_true rfl)) dX1_gale_24 ⟨Nat.le_of_ble_eq_true rfl, Nat.le_of_ble_eq_true rfl⟩) hS hFc (fun r_3 H locs hr_3 hP _ _ hS => ?_)
    subst hr_3
    refine kt_i (y := b2i true) rfl ?_
    have hD : va_D A (WM k0 kv ko ks km kt kp kb cZ cD cI (thr true false false) mv io sz mk se pv pd op mw) := va_D_same (ws := WM k0 kv ko ks km kt kp kb cZ cD cI th mv io sz mk se pv pd op mw) rfl hD
    have hP : va_P D vwCl (WM k0 kv ko ks km kt kp kb cZ cD cI (thr true false false) mv io sz mk se pv pd op mw) H := hP
    refine kb_eq (tgt := 32) hx hb dX1_gale_27 (by decide) (fun h => absurd h (by decide)) (fun _ => ?_)
    refine lv_iconst (v := nI 0) hx hb dX1_gale_30 (by decide) ?_
    refine kt_i (y := b2i false) rfl ?_
    refine W.widen (k := 0) (n := 0) (Nat.le_of_ble_eq_true rfl) (Nat.le_of_ble_eq_true rfl) ?_
    exact W.zret (v := b2i false) hx hb hr (b2i_nar _) (fun t9 ht9 hW9 => ⟨⟨_, rfl, rfl, by rw [ht9]; exact hP⟩, hS.F ht9⟩) hS.2.2 dX1_gale_31
  · refine lv_fload_n hx hb dX1_gale_9 rfl (lv_at hl 2 rfl) ?_
    refine lv_f2d hx hb dX1_gale_10 hnn ?_
    refine rd_calli (va_runS (As := [.double (FP.f2d y)]) (rest := [.ref k0]) ⟨hx, hb, hml, hown, hts⟩ (c_X1_isWind l (FP.f2d y) ) (va_cwS 1 hts gX1_gale_X1_isWind rfl rfl rfl (by decide +kernel) ⟨Nat.le_of_ble_eq_true rfl, Nat.le_of_ble_eq_true rfl⟩) ⟨fun a U g mk q => q, fun U hU hW => ⟨rfl, trivial⟩⟩ rfl rfl hl.1 rfl (lv_room (Nat.le_of_ble_eq_true rfl)) dX1_gale_11 ⟨Nat.le_of_ble_eq_true rfl, Nat.le_of_ble_eq_true rfl⟩) (fun r_4 hr_4 => ?_)
    subst hr_4
    refine kb_ne (tgt := 21) hx hb dX1_gale_14 (by decide) (fun c_5 => ?_) (fun c_5 => ?_)
    · refine lv_iconst (v := nI 0) hx hb dX1_gale_21 (by decide) ?_
      exact absurd (show InN 6 x0 ∧ wnM (FP.f2d y) = true from ⟨outs_in (by decide) c_2, c_5⟩) hbad
    · refine lv_iconst (v := nI 1) hx hb dX1_gale_17 (by decide) ?_
      refine lv_goto (tgt := 22) hx hb dX1_gale_18 (by decide) ?_
      refine lv_iconst (v := nI 0) hx hb dX1_gale_22 (by decide) ?_
      refine lv_iconst (v := nI 0) hx hb dX1_gale_23 (by decide) ?_
      have hFc := va_free (wc := WM k0 kv ko ks km kt kp kb cZ cD cI th mv io sz mk se pv pd op mw) hD hS hA [0, 1, 2, 3, 4, 5, 6, 7] rfl
      refine wr_calli (va_runV (As := [.int (b2i true), .int (b2i false), .int (b2i false)]) (rest := []) ⟨hx, hb, hml, hown, hts⟩ (c_X1_throwing l D k0 kv ko ks km kt kp kb cZ cD cI th mv io sz mk se pv pd op mw hsz s.heap.size true false false ) (cwV 3 hts gX1_gale_X1_throwing rfl rfl rfl (by decide +kernel) ⟨Nat.le_of_ble_eq_true rfl, Nat.le_of_ble_eq_true rfl⟩) ⟨fun a U g mk q => ⟨q.1, q.2.1, q.2.2.1, va_K.moved (u := U) (U := U.calling g mk a) (Vm.Alike.refl U.vm) q.2.2.2.1, q.2.2.2.2⟩, va_recv hK hP (ci := 2) (q0 := 0) rfl rfl, fun U hU hW => ⟨rfl, by rw [hU], by rw [hU]; exact hP, va_K.moved hW.alike hK, hD.weaken (fun _ _ _ _ => trivial)⟩⟩ rfl rfl hl.1 rfl (lv_room (Nat.le_of_ble_eq_true rfl)) dX1_gale_24 ⟨Nat.le_of_ble_eq_true rfl, Nat.le_of_ble_eq_true rfl⟩) hS hFc (fun r_6 H locs hr_6 hP _ _ hS => ?_)
      subst hr_6
      refine kt_i (y := b2i true) rfl ?_
      have hD : va_D A (WM k0 kv ko ks km kt kp kb cZ cD cI (thr true false false) mv io sz mk se pv pd op mw) := va_D_same (ws := WM k0 kv ko ks km kt kp kb cZ cD cI th mv io sz mk se pv pd op mw) rfl hD
      have hP : va_P D vwCl (WM k0 kv ko ks km kt kp kb cZ cD cI (thr true false false) mv io sz mk se pv pd op mw) H := hP
      refine kb_eq (tgt := 32) hx hb dX1_gale_27 (by decide) (fun h => absurd h (by decide)) (fun _ => ?_)
      refine lv_iconst (v := nI 0) hx hb dX1_gale_30 (by decide) ?_
      refine kt_i (y := b2i false) rfl ?_
      refine W.widen (k := 0) (n := 0) (Nat.le_of_ble_eq_true rfl) (Nat.le_of_ble_eq_true rfl) ?_
      exact W.zret (v := b2i false) hx hb hr (b2i_nar _) (fun t9 ht9 hW9 => ⟨⟨_, rfl, rfl, by rw [ht9]; exact hP⟩, hS.F ht9⟩) hS.2.2 dX1_gale_31
set_option maxHeartbeats 4000000 in
set_option maxRecDepth 100000 in
theorem c_X1_lift_bad (l : Launch) (D : va_G) (k0 kv ko ks km kt kp kb : Nat) (cZ cD cI : ClassId) (th : Nat) (mv : Nat → UInt64) (io : Nat → Bool) (sz : Nat → Nat) (mk : Nat → UInt64) (se : Nat → Bool) (pv : Nat → UInt64) (pd : Nat → Bool) (op : Bool) (mw : Int32) (hsz : ∀ j, sz j ≤ 12) (zz : Nat) (x0 : Int32) (x1 : Int32) (hbad : ¬ (InN 6 x0 ∧ InN 3 x1)) : Met l yX1_lift wsX1_lift ({ frames := 1, cells := 0, slots := 0, locals := 23 }) (va_Pc [.ref k0, .int x0, .int x1] (fun U => U.heap.size = zz ∧ va_P D vwCl (WM k0 kv ko ks km kt kp kb cZ cD cI th mv io sz mk se pv pd op mw) U.heap ∧ va_K D vwCl (TY cZ cD cI) U ∧ va_D (fun _ => True) (WM k0 kv ko ks km kt kp kb cZ cD cI th mv io sz mk se pv pd op mw))) (wr_Qi (fun r => r = b2i false) (fun H => va_P D vwCl (WM k0 kv ko ks km kt kp kb cZ cD cI (thr true false false) mv io sz mk se pv pd op mw) H) (va_A (WM k0 kv ko ks km kt kp kb cZ cD cI th mv io sz mk se pv pd op mw) zz))  0 0 (va_A (WM k0 kv ko ks km kt kp kb cZ cD cI th mv io sz mk se pv pd op mw) zz) := by
  refine Met.ofW (cc := cX1_lift) (maxL := 3) (ret := some .boolean) (by decide) rfl ?_
  intro p e s m args below meth c s₁ B hml hv
  obtain ⟨rfl, hsz_, hP, hK, hD0⟩ := hv
  have hx := B.exec
  have hb := B.bytes
  have hr := B.returns
  have hts := atoms_spec (ws := wsX1_lift) B.pre
  have hown : s.vm.findClass RX1 = some m.cls := findClass_of_methodNamed B.named
  have hlocks := B.notSynchronized
  subst hsz_
  have hD := hD0.self (sz := s.heap.size)
  generalize hAe : va_A (WM k0 kv ko ks km kt kp kb cZ cD cI th mv io sz mk se pv pd op mw) s.heap.size = A at hD ⊢
  have hA : ∀ q : Nat, s.heap.size ≤ q → A q := fun q h => by rw [← hAe]; exact Or.inr h
  have hS : va_S A s.heap s.heap [] := va_S.rf
  have hl := lv_entry ([.ref k0, .int x0, .int x1]) (n := 3) (Nat.le_of_ble_eq_true rfl)
  rw [lg_entry_eq]
  generalize (lg_sl ([.ref k0, .int x0, .int x1]) ++ List.replicate (3 - (lg_sl ([.ref k0, .int x0, .int x1])).length) Slot.unset).toArray = ls at hl ⊢
  have hl : lv_has ls 3 [(0, .ref k0), (1, .int x0), (2, .int x1)] := hl
  refine lv_aload_n hx hb dX1_lift_0 rfl (lv_at hl 0 rfl) ?_
  refine lv_iload_n hx hb dX1_lift_1 rfl (lv_at hl 1 rfl) ?_
  refine lv_iconst (v := nI 5) hx hb dX1_lift_2 (by decide) ?_
  refine rd_calli (va_runS (As := [.int x0, .int (nI 5)]) (rest := [.ref k0]) ⟨hx, hb, hml, hown, hts⟩ (c_X1_outside l x0 5 ) (va_cwS 2 hts gX1_lift_X1_outside rfl rfl rfl (by decide +kernel) ⟨Nat.le_of_ble_eq_true rfl, Nat.le_of_ble_eq_true rfl⟩) ⟨fun a U g mk q => q, fun U hU hW => ⟨rfl, trivial⟩⟩ rfl rfl hl.1 rfl (lv_room (Nat.le_of_ble_eq_true rfl)) dX1_lift_3 ⟨Nat.le_of_ble_eq_true rfl, Nat.le_of_ble_eq_true rfl⟩) (fun r_1 hr_1 => ?_)
  subst hr_1
  refine kb_ne (tgt := 17) hx hb dX1_lift_6 (by decide) (fun c_2 => ?_) (fun c_2 => ?_)
  · refine lv_iconst (v := nI 1) hx hb dX1_lift_17 (by decide) ?_
    refine lv_goto (tgt := 22) hx hb dX1_lift_18 (by decide) ?_
    refine lv_iconst (v := nI 0) hx hb dX1_lift_22 (by decide) ?_
    refine lv_iconst (v := nI 0) hx hb dX1_lift_23 (by decide) ?_
    have hFc := va_free (wc := WM k0 kv ko ks km kt kp kb cZ cD cI th mv io sz mk se pv pd op mw) hD hS hA [0, 1, 2, 3, 4, 5, 6, 7] rfl
    refine wr_calli (va_runV (As := [.int (b2i true), .int (b2i false), .int (b2i false)]) (rest := []) ⟨hx, hb, hml, hown, hts⟩ (c_X1_throwing l D k0 kv ko ks km kt kp kb cZ cD cI th mv io sz mk se pv pd op mw hsz s.heap.size true false false ) (cwV 3 hts gX1_lift_X1_throwing rfl rfl rfl (by decide +kernel) ⟨Nat.le_of_ble_eq_true rfl, Nat.le_of_ble_eq_true rfl⟩) ⟨fun a U g mk q => ⟨q.1, q.2.1, q.2.2.1, va_K.moved (u := U) (U := U.calling g mk a) (Vm.Alike.refl U.vm) q.2.2.2.1, q.2.2.2.2⟩, va_recv hK hP (ci := 2) (q0 := 0) rfl rfl, fun U hU hW => ⟨rfl, by rw [hU], by rw [hU]; exact hP, va_K.moved hW.alike hK, hD.weaken (fun _ _ _ _ => trivial)⟩⟩ rfl rfl hl.1 rfl (lv_room (Nat.le_of_ble_eq_true rfl)) dX1_lift_24 ⟨Nat.le_of_ble_eq_true rfl, Nat.le_of_ble_eq_true rfl⟩) hS hFc (fun r_3 H locs hr_3 hP _ _ hS => ?_)
    subst hr_3
    refine kt_i (y := b2i true) rfl ?_
    have hD : va_D A (WM k0 kv ko ks km kt kp kb cZ cD cI (thr true false false) mv io sz mk se pv pd op mw) := va_D_same (ws := WM k0 kv ko ks km kt kp kb cZ cD cI th mv io sz mk se pv pd op mw) rfl hD
    have hP : va_P D vwCl (WM k0 kv ko ks km kt kp kb cZ cD cI (thr true false false) mv io sz mk se pv pd op mw) H := hP
    refine kb_eq (tgt := 32) hx hb dX1_lift_27 (by decide) (fun h => absurd h (by decide)) (fun _ => ?_)
    refine lv_iconst (v := nI 0) hx hb dX1_lift_30 (by decide) ?_
    refine kt_i (y := b2i false) rfl ?_
    refine W.widen (k := 0) (n := 0) (Nat.le_of_ble_eq_true rfl) (Nat.le_of_ble_eq_true rfl) ?_
    exact W.zret (v := b2i false) hx hb hr (b2i_nar _) (fun t9 ht9 hW9 => ⟨⟨_, rfl, rfl, by rw [ht9]; exact hP⟩, hS.F ht9⟩) hS.2.2 dX1_lift_31
  · refine lv_iload_n hx hb dX1_lift_9 rfl (lv_at hl 2 rfl) ?_
    refine lv_iconst (v := nI 2) hx hb dX1_lift_10 (by decide) ?_
    refine rd_calli (va_runS (As := [.int x1, .int (nI 2)]) (rest := [.ref k0]) ⟨hx, hb, hml, hown, hts⟩ (c_X1_outside l x1 2 ) (va_cwS 2 hts gX1_lift_X1_outside rfl rfl rfl (by decide +kernel) ⟨Nat.le_of_ble_eq_true rfl, Nat.le_of_ble_eq_true rfl⟩) ⟨fun a U g mk q => q, fun U hU hW => ⟨rfl, trivial⟩⟩ rfl rfl hl.1 rfl (lv_room (Nat.le_of_ble_eq_true rfl)) dX1_lift_11 ⟨Nat.le_of_ble_eq_true rfl, Nat.le_of_ble_eq_true rfl⟩) (fun r_4 hr_4 => ?_)
    subst hr_4
    refine kb_eq (tgt := 21) hx hb dX1_lift_14 (by decide) (fun c_5 => ?_) (fun c_5 => ?_)
    · refine lv_iconst (v := nI 0) hx hb dX1_lift_21 (by decide) ?_
      exact absurd (show InN 6 x0 ∧ InN 3 x1 from ⟨outs_in (by decide) c_2, outs_in (by decide) c_5⟩) hbad
    · refine lv_iconst (v := nI 1) hx hb dX1_lift_17 (by decide) ?_
      refine lv_goto (tgt := 22) hx hb dX1_lift_18 (by decide) ?_
      refine lv_iconst (v := nI 0) hx hb dX1_lift_22 (by decide) ?_
      refine lv_iconst (v := nI 0) hx hb dX1_lift_23 (by decide) ?_
      have hFc := va_free (wc := WM k0 kv ko ks km kt kp kb cZ cD cI th mv io sz mk se pv pd op mw) hD hS hA [0, 1, 2, 3, 4, 5, 6, 7] rfl
      refine wr_calli (va_runV (As := [.int (b2i true), .int (b2i false), .int (b2i false)]) (rest := []) ⟨hx, hb, hml, hown, hts⟩ (c_X1_throwing l D k0 kv ko ks km kt kp kb cZ cD cI th mv io sz mk se pv pd op mw hsz s.heap.size true false false ) (cwV 3 hts gX1_lift_X1_throwing rfl rfl rfl (by decide +kernel) ⟨Nat.le_of_ble_eq_true rfl, Nat.le_of_ble_eq_true rfl⟩) ⟨fun a U g mk q => ⟨q.1, q.2.1, q.2.2.1, va_K.moved (u := U) (U := U.calling g mk a) (Vm.Alike.refl U.vm) q.2.2.2.1, q.2.2.2.2⟩, va_recv hK hP (ci := 2) (q0 := 0) rfl rfl, fun U hU hW => ⟨rfl, by rw [hU], by rw [hU]; exact hP, va_K.moved hW.alike hK, hD.weaken (fun _ _ _ _ => trivial)⟩⟩ rfl rfl hl.1 rfl (lv_room (Nat.le_of_ble_eq_true rfl)) dX1_lift_24 ⟨Nat.le_of_ble_eq_true rfl, Nat.le_of_ble_eq_true rfl⟩) hS hFc (fun r_6 H locs hr_6 hP _ _ hS => ?_)
      subst hr_6
      refine kt_i (y := b2i true) rfl ?_
      have hD : va_D A (WM k0 kv ko ks km kt kp kb cZ cD cI (thr true false false) mv io sz mk se pv pd op mw) := va_D_same (ws := WM k0 kv ko ks km kt kp kb cZ cD cI th mv io sz mk se pv pd op mw) rfl hD
      have hP : va_P D vwCl (WM k0 kv ko ks km kt kp kb cZ cD cI (thr true false false) mv io sz mk se pv pd op mw) H := hP
      refine kb_eq (tgt := 32) hx hb dX1_lift_27 (by decide) (fun h => absurd h (by decide)) (fun _ => ?_)
      refine lv_iconst (v := nI 0) hx hb dX1_lift_30 (by decide) ?_
      refine kt_i (y := b2i false) rfl ?_
      refine W.widen (k := 0) (n := 0) (Nat.le_of_ble_eq_true rfl) (Nat.le_of_ble_eq_true rfl) ?_
      exact W.zret (v := b2i false) hx hb hr (b2i_nar _) (fun t9 ht9 hW9 => ⟨⟨_, rfl, rfl, by rw [ht9]; exact hP⟩, hS.F ht9⟩) hS.2.2 dX1_lift_31
set_option maxHeartbeats 4000000 in
set_option maxRecDepth 100000 in
theorem c_X1_probe_bad (l : Launch) (D : va_G) (k0 kv ko ks km kt kp kb : Nat) (cZ cD cI : ClassId) (th : Nat) (mv : Nat → UInt64) (io : Nat → Bool) (sz : Nat → Nat) (mk : Nat → UInt64) (se : Nat → Bool) (pv : Nat → UInt64) (pd : Nat → Bool) (op : Bool) (mw : Int32) (hsz : ∀ j, sz j ≤ 12) (zz : Nat) (y : UInt64) (hbad : ¬ (lvl y = true)) : Met l yX1_probe wsX1_probe ({ frames := 1, cells := 0, slots := 0, locals := 23 }) (va_Pc [.ref k0, .double y] (fun U => U.heap.size = zz ∧ va_P D vwCl (WM k0 kv ko ks km kt kp kb cZ cD cI th mv io sz mk se pv pd op mw) U.heap ∧ va_K D vwCl (TY cZ cD cI) U ∧ va_D (fun _ => True) (WM k0 kv ko ks km kt kp kb cZ cD cI th mv io sz mk se pv pd op mw))) (wr_Qi (fun r => r = nI 0) (fun H => va_P D vwCl (WM k0 kv ko ks km kt kp kb cZ cD cI (thr true false false) mv io sz mk se pv pd op mw) H) (va_A (WM k0 kv ko ks km kt kp kb cZ cD cI th mv io sz mk se pv pd op mw) zz))  0 0 (va_A (WM k0 kv ko ks km kt kp kb cZ cD cI th mv io sz mk se pv pd op mw) zz) := by
  refine Met.ofW (cc := cX1_probe) (maxL := 3) (ret := some .int) (by decide) rfl ?_
  intro p e s m args below meth c s₁ B hml hv
  obtain ⟨rfl, hsz_, hP, hK, hD0⟩ := hv
  have hx := B.exec
  have hb := B.bytes
  have hr := B.returns
  have hts := atoms_spec (ws := wsX1_probe) B.pre
  have hown : s.vm.findClass RX1 = some m.cls := findClass_of_methodNamed B.named
  have hlocks := B.notSynchronized
  subst hsz_
  have hD := hD0.self (sz := s.heap.size)
  generalize hAe : va_A (WM k0 kv ko ks km kt kp kb cZ cD cI th mv io sz mk se pv pd op mw) s.heap.size = A at hD ⊢
  have hA : ∀ q : Nat, s.heap.size ≤ q → A q := fun q h => by rw [← hAe]; exact Or.inr h
  have hS : va_S A s.heap s.heap [] := va_S.rf
  have hl := lv_entry ([.ref k0, .double y]) (n := 3) (Nat.le_of_ble_eq_true rfl)
  rw [lg_entry_eq]
  generalize (lg_sl ([.ref k0, .double y]) ++ List.replicate (3 - (lg_sl ([.ref k0, .double y])).length) Slot.unset).toArray = ls at hl ⊢
  have hl : lv_has ls 3 [(0, .ref k0), (1, .double y)] := hl
  refine lv_aload_n hx hb dX1_probe_0 rfl (lv_at hl 0 rfl) ?_
  refine lv_dload_n hx hb dX1_probe_1 rfl (lv_at hl 1 rfl) ?_
  refine rd_calli (va_runS (As := [.double y]) (rest := [.ref k0]) ⟨hx, hb, hml, hown, hts⟩ (c_X1_isLevel l y ) (va_cwS 1 hts gX1_probe_X1_isLevel rfl rfl rfl (by decide +kernel) ⟨Nat.le_of_ble_eq_true rfl, Nat.le_of_ble_eq_true rfl⟩) ⟨fun a U g mk q => q, fun U hU hW => ⟨rfl, trivial⟩⟩ rfl rfl hl.1 rfl (lv_room (Nat.le_of_ble_eq_true rfl)) dX1_probe_2 ⟨Nat.le_of_ble_eq_true rfl, Nat.le_of_ble_eq_true rfl⟩) (fun r_1 hr_1 => ?_)
  subst hr_1
  refine kb_ne (tgt := 12) hx hb dX1_probe_5 (by decide) (fun c_2 => ?_) (fun c_2 => ?_)
  · refine lv_iconst (v := nI 0) hx hb dX1_probe_12 (by decide) ?_
    exact absurd (show lvl y = true from c_2) hbad
  · refine lv_iconst (v := nI 1) hx hb dX1_probe_8 (by decide) ?_
    refine lv_goto (tgt := 13) hx hb dX1_probe_9 (by decide) ?_
    refine lv_iconst (v := nI 0) hx hb dX1_probe_13 (by decide) ?_
    refine lv_iconst (v := nI 0) hx hb dX1_probe_14 (by decide) ?_
    have hFc := va_free (wc := WM k0 kv ko ks km kt kp kb cZ cD cI th mv io sz mk se pv pd op mw) hD hS hA [0, 1, 2, 3, 4, 5, 6, 7] rfl
    refine wr_calli (va_runV (As := [.int (b2i true), .int (b2i false), .int (b2i false)]) (rest := []) ⟨hx, hb, hml, hown, hts⟩ (c_X1_throwing l D k0 kv ko ks km kt kp kb cZ cD cI th mv io sz mk se pv pd op mw hsz s.heap.size true false false ) (cwV 3 hts gX1_probe_X1_throwing rfl rfl rfl (by decide +kernel) ⟨Nat.le_of_ble_eq_true rfl, Nat.le_of_ble_eq_true rfl⟩) ⟨fun a U g mk q => ⟨q.1, q.2.1, q.2.2.1, va_K.moved (u := U) (U := U.calling g mk a) (Vm.Alike.refl U.vm) q.2.2.2.1, q.2.2.2.2⟩, va_recv hK hP (ci := 2) (q0 := 0) rfl rfl, fun U hU hW => ⟨rfl, by rw [hU], by rw [hU]; exact hP, va_K.moved hW.alike hK, hD.weaken (fun _ _ _ _ => trivial)⟩⟩ rfl rfl hl.1 rfl (lv_room (Nat.le_of_ble_eq_true rfl)) dX1_probe_15 ⟨Nat.le_of_ble_eq_true rfl, Nat.le_of_ble_eq_true rfl⟩) hS hFc (fun r_3 H locs hr_3 hP _ _ hS => ?_)
    subst hr_3
    refine kt_i (y := b2i true) rfl ?_
    have hD : va_D A (WM k0 kv ko ks km kt kp kb cZ cD cI (thr true false false) mv io sz mk se pv pd op mw) := va_D_same (ws := WM k0 kv ko ks km kt kp kb cZ cD cI th mv io sz mk se pv pd op mw) rfl hD
    have hP : va_P D vwCl (WM k0 kv ko ks km kt kp kb cZ cD cI (thr true false false) mv io sz mk se pv pd op mw) H := hP
    refine kb_eq (tgt := 23) hx hb dX1_probe_18 (by decide) (fun h => absurd h (by decide)) (fun _ => ?_)
    refine lv_iconst (v := nI 0) hx hb dX1_probe_21 (by decide) ?_
    refine W.widen (k := 0) (n := 0) (Nat.le_of_ble_eq_true rfl) (Nat.le_of_ble_eq_true rfl) ?_
    exact W.iret (v := nI 0) hx hb hr (fun t9 ht9 hW9 => ⟨⟨_, rfl, rfl, by rw [ht9]; exact hP⟩, hS.F ht9⟩) hS.2.2 dX1_probe_22
set_option maxHeartbeats 4000000 in
set_option maxRecDepth 100000 in
theorem c_X1_probeWind_bad (l : Launch) (D : va_G) (k0 kv ko ks km kt kp kb : Nat) (cZ cD cI : ClassId) (th : Nat) (mv : Nat → UInt64) (io : Nat → Bool) (sz : Nat → Nat) (mk : Nat → UInt64) (se : Nat → Bool) (pv : Nat → UInt64) (pd : Nat → Bool) (op : Bool) (mw : Int32) (hsz : ∀ j, sz j ≤ 12) (zz : Nat) (y : UInt32) (hnn : vf_n64 (FP.f2d y)) (hbad : ¬ (wnM (FP.f2d y) = true)) : Met l yX1_probeWind wsX1_probeWind ({ frames := 1, cells := 0, slots := 0, locals := 23 }) (va_Pc [.ref k0, .float y] (fun U => U.heap.size = zz ∧ va_P D vwCl (WM k0 kv ko ks km kt kp kb cZ cD cI th mv io sz mk se pv pd op mw) U.heap ∧ va_K D vwCl (TY cZ cD cI) U ∧ va_D (fun _ => True) (WM k0 kv ko ks km kt kp kb cZ cD cI th mv io sz mk se pv pd op mw))) (wr_Qi (fun r => r = nI 0) (fun H => va_P D vwCl (WM k0 kv ko ks km kt kp kb cZ cD cI (thr true false false) mv io sz mk se pv pd op mw) H) (va_A (WM k0 kv ko ks km kt kp kb cZ cD cI th mv io sz mk se pv pd op mw) zz))  0 0 (va_A (WM k0 kv ko ks km kt kp kb cZ cD cI th mv io sz mk se pv pd op mw) zz) := by
  refine Met.ofW (cc := cX1_probeWind) (maxL := 2) (ret := some .int) (by decide) rfl ?_
  intro p e s m args below meth c s₁ B hml hv
  obtain ⟨rfl, hsz_, hP, hK, hD0⟩ := hv
  have hx := B.exec
  have hb := B.bytes
  have hr := B.returns
  have hts := atoms_spec (ws := wsX1_probeWind) B.pre
  have hown : s.vm.findClass RX1 = some m.cls := findClass_of_methodNamed B.named
  have hlocks := B.notSynchronized
  subst hsz_
  have hD := hD0.self (sz := s.heap.size)
  generalize hAe : va_A (WM k0 kv ko ks km kt kp kb cZ cD cI th mv io sz mk se pv pd op mw) s.heap.size = A at hD ⊢
  have hA : ∀ q : Nat, s.heap.size ≤ q → A q := fun q h => by rw [← hAe]; exact Or.inr h
  have hS : va_S A s.heap s.heap [] := va_S.rf
  have hl := lv_entry ([.ref k0, .float y]) (n := 2) (Nat.le_of_ble_eq_true rfl)
  rw [lg_entry_eq]
  generalize (lg_sl ([.ref k0, .float y]) ++ List.replicate (2 - (lg_sl ([.ref k0, .float y])).length) Slot.unset).toArray = ls at hl ⊢
  have hl : lv_has ls 2 [(0, .ref k0), (1, .float y)] := hl
  refine lv_aload_n hx hb dX1_probeWind_0 rfl (lv_at hl 0 rfl) ?_
  refine lv_fload_n hx hb dX1_probeWind_1 rfl (lv_at hl 1 rfl) ?_
  refine lv_f2d hx hb dX1_probeWind_2 hnn ?_
  refine rd_calli (va_runS (As := [.double (FP.f2d y)]) (rest := [.ref k0]) ⟨hx, hb, hml, hown, hts⟩ (c_X1_isWind l (FP.f2d y) ) (va_cwS 1 hts gX1_probeWind_X1_isWind rfl rfl rfl (by decide +kernel) ⟨Nat.le_of_ble_eq_true rfl, Nat.le_of_ble_eq_true rfl⟩) ⟨fun a U g mk q => q, fun U hU hW => ⟨rfl, trivial⟩⟩ rfl rfl hl.1 rfl (lv_room (Nat.le_of_ble_eq_true rfl)) dX1_probeWind_3 ⟨Nat.le_of_ble_eq_true rfl, Nat.le_of_ble_eq_true rfl⟩) (fun r_1 hr_1 => ?_)
  subst hr_1
  refine kb_ne (tgt := 13) hx hb dX1_probeWind_6 (by decide) (fun c_2 => ?_) (fun c_2 => ?_)
  · refine lv_iconst (v := nI 0) hx hb dX1_probeWind_13 (by decide) ?_
    exact absurd (show wnM (FP.f2d y) = true from c_2) hbad
  · refine lv_iconst (v := nI 1) hx hb dX1_probeWind_9 (by decide) ?_
    refine lv_goto (tgt := 14) hx hb dX1_probeWind_10 (by decide) ?_
    refine lv_iconst (v := nI 0) hx hb dX1_probeWind_14 (by decide) ?_
    refine lv_iconst (v := nI 0) hx hb dX1_probeWind_15 (by decide) ?_
    have hFc := va_free (wc := WM k0 kv ko ks km kt kp kb cZ cD cI th mv io sz mk se pv pd op mw) hD hS hA [0, 1, 2, 3, 4, 5, 6, 7] rfl
    refine wr_calli (va_runV (As := [.int (b2i true), .int (b2i false), .int (b2i false)]) (rest := []) ⟨hx, hb, hml, hown, hts⟩ (c_X1_throwing l D k0 kv ko ks km kt kp kb cZ cD cI th mv io sz mk se pv pd op mw hsz s.heap.size true false false ) (cwV 3 hts gX1_probeWind_X1_throwing rfl rfl rfl (by decide +kernel) ⟨Nat.le_of_ble_eq_true rfl, Nat.le_of_ble_eq_true rfl⟩) ⟨fun a U g mk q => ⟨q.1, q.2.1, q.2.2.1, va_K.moved (u := U) (U := U.calling g mk a) (Vm.Alike.refl U.vm) q.2.2.2.1, q.2.2.2.2⟩, va_recv hK hP (ci := 2) (q0 := 0) rfl rfl, fun U hU hW => ⟨rfl, by rw [hU], by rw [hU]; exact hP, va_K.moved hW.alike hK, hD.weaken (fun _ _ _ _ => trivial)⟩⟩ rfl rfl hl.1 rfl (lv_room (Nat.le_of_ble_eq_true rfl)) dX1_probeWind_16 ⟨Nat.le_of_ble_eq_true rfl, Nat.le_of_ble_eq_true rfl⟩) hS hFc (fun r_3 H locs hr_3 hP _ _ hS => ?_)
    subst hr_3
    refine kt_i (y := b2i true) rfl ?_
    have hD : va_D A (WM k0 kv ko ks km kt kp kb cZ cD cI (thr true false false) mv io sz mk se pv pd op mw) := va_D_same (ws := WM k0 kv ko ks km kt kp kb cZ cD cI th mv io sz mk se pv pd op mw) rfl hD
    have hP : va_P D vwCl (WM k0 kv ko ks km kt kp kb cZ cD cI (thr true false false) mv io sz mk se pv pd op mw) H := hP
    refine kb_eq (tgt := 24) hx hb dX1_probeWind_19 (by decide) (fun h => absurd h (by decide)) (fun _ => ?_)
    refine lv_iconst (v := nI 0) hx hb dX1_probeWind_22 (by decide) ?_
    refine W.widen (k := 0) (n := 0) (Nat.le_of_ble_eq_true rfl) (Nat.le_of_ble_eq_true rfl) ?_
    exact W.iret (v := nI 0) hx hb hr (fun t9 ht9 hW9 => ⟨⟨_, rfl, rfl, by rw [ht9]; exact hP⟩, hS.F ht9⟩) hS.2.2 dX1_probeWind_23
set_option maxHeartbeats 4000000 in
set_option maxRecDepth 100000 in
theorem c_X1_probeOut_bad (l : Launch) (D : va_G) (k0 kv ko ks km kt kp kb : Nat) (cZ cD cI : ClassId) (th : Nat) (mv : Nat → UInt64) (io : Nat → Bool) (sz : Nat → Nat) (mk : Nat → UInt64) (se : Nat → Bool) (pv : Nat → UInt64) (pd : Nat → Bool) (op : Bool) (mw : Int32) (hsz : ∀ j, sz j ≤ 12) (zz : Nat) (x0 : Int32) (hbad : ¬ (InN 2 x0)) : Met l yX1_probeOut wsX1_probeOut ({ frames := 1, cells := 0, slots := 0, locals := 23 }) (va_Pc [.ref k0, .int x0] (fun U => U.heap.size = zz ∧ va_P D vwCl (WM k0 kv ko ks km kt kp kb cZ cD cI th mv io sz mk se pv pd op mw) U.heap ∧ va_K D vwCl (TY cZ cD cI) U ∧ va_D (fun _ => True) (WM k0 kv ko ks km kt kp kb cZ cD cI th mv io sz mk se pv pd op mw))) (wr_Qi (fun r => r = nI 0) (fun H => va_P D vwCl (WM k0 kv ko ks km kt kp kb cZ cD cI (thr true false false) mv io sz mk se pv pd op mw) H) (va_A (WM k0 kv ko ks km kt kp kb cZ cD cI th mv io sz mk se pv pd op mw) zz))  0 0 (va_A (WM k0 kv ko ks km kt kp kb cZ cD cI th mv io sz mk se pv pd op mw) zz) := by
  refine Met.ofW (cc := cX1_probeOut) (maxL := 2) (ret := some .int) (by decide) rfl ?_
  intro p e s m args below meth c s₁ B hml hv
  obtain ⟨rfl, hsz_, hP, hK, hD0⟩ := hv
  have hx := B.exec
  have hb := B.bytes
  have hr := B.returns
  have hts := atoms_spec (ws := wsX1_probeOut) B.pre
  have hown : s.vm.findClass RX1 = some m.cls := findClass_of_methodNamed B.named
  have hlocks := B.notSynchronized
  subst hsz_
  have hD := hD0.self (sz := s.heap.size)
  generalize hAe : va_A (WM k0 kv ko ks km kt kp kb cZ cD cI th mv io sz mk se pv pd op mw) s.heap.size = A at hD ⊢
  have hA : ∀ q : Nat, s.heap.size ≤ q → A q := fun q h => by rw [← hAe]; exact Or.inr h
  have hS : va_S A s.heap s.heap [] := va_S.rf
  have hl := lv_entry ([.ref k0, .int x0]) (n := 2) (Nat.le_of_ble_eq_true rfl)
  rw [lg_entry_eq]
  generalize (lg_sl ([.ref k0, .int x0]) ++ List.replicate (2 - (lg_sl ([.ref k0, .int x0])).length) Slot.unset).toArray = ls at hl ⊢
  have hl : lv_has ls 2 [(0, .ref k0), (1, .int x0)] := hl
  refine lv_aload_n hx hb dX1_probeOut_0 rfl (lv_at hl 0 rfl) ?_
  refine lv_iload_n hx hb dX1_probeOut_1 rfl (lv_at hl 1 rfl) ?_
  refine lv_iconst (v := nI 1) hx hb dX1_probeOut_2 (by decide) ?_
  refine rd_calli (va_runS (As := [.int x0, .int (nI 1)]) (rest := [.ref k0]) ⟨hx, hb, hml, hown, hts⟩ (c_X1_outside l x0 1 ) (va_cwS 2 hts gX1_probeOut_X1_outside rfl rfl rfl (by decide +kernel) ⟨Nat.le_of_ble_eq_true rfl, Nat.le_of_ble_eq_true rfl⟩) ⟨fun a U g mk q => q, fun U hU hW => ⟨rfl, trivial⟩⟩ rfl rfl hl.1 rfl (lv_room (Nat.le_of_ble_eq_true rfl)) dX1_probeOut_3 ⟨Nat.le_of_ble_eq_true rfl, Nat.le_of_ble_eq_true rfl⟩) (fun r_1 hr_1 => ?_)
  subst hr_1
  refine kt_i (y := b2i true) (congrArg b2i (outs_out (by decide) hbad)) ?_
  refine lv_iconst (v := nI 0) hx hb dX1_probeOut_6 (by decide) ?_
  refine lv_iconst (v := nI 0) hx hb dX1_probeOut_7 (by decide) ?_
  have hFc := va_free (wc := WM k0 kv ko ks km kt kp kb cZ cD cI th mv io sz mk se pv pd op mw) hD hS hA [0, 1, 2, 3, 4, 5, 6, 7] rfl
  refine wr_calli (va_runV (As := [.int (b2i true), .int (b2i false), .int (b2i false)]) (rest := []) ⟨hx, hb, hml, hown, hts⟩ (c_X1_throwing l D k0 kv ko ks km kt kp kb cZ cD cI th mv io sz mk se pv pd op mw hsz s.heap.size true false false ) (cwV 3 hts gX1_probeOut_X1_throwing rfl rfl rfl (by decide +kernel) ⟨Nat.le_of_ble_eq_true rfl, Nat.le_of_ble_eq_true rfl⟩) ⟨fun a U g mk q => ⟨q.1, q.2.1, q.2.2.1, va_K.moved (u := U) (U := U.calling g mk a) (Vm.Alike.refl U.vm) q.2.2.2.1, q.2.2.2.2⟩, va_recv hK hP (ci := 2) (q0 := 0) rfl rfl, fun U hU hW => ⟨rfl, by rw [hU], by rw [hU]; exact hP, va_K.moved hW.alike hK, hD.weaken (fun _ _ _ _ => trivial)⟩⟩ rfl rfl hl.1 rfl (lv_room (Nat.le_of_ble_eq_true rfl)) dX1_probeOut_8 ⟨Nat.le_of_ble_eq_true rfl, Nat.le_of_ble_eq_true rfl⟩) hS hFc (fun r_2 H locs hr_2 hP _ _ hS => ?_)
  subst hr_2
  refine kt_i (y := b2i true) rfl ?_
  have hD : va_D A (WM k0 kv ko ks km kt kp kb cZ cD cI (thr true false false) mv io sz mk se pv pd op mw) := va_D_same (ws := WM k0 kv ko ks km kt kp kb cZ cD cI th mv io sz mk se pv pd op mw) rfl hD
  have hP : va_P D vwCl (WM k0 kv ko ks km kt kp kb cZ cD cI (thr true false false) mv io sz mk se pv pd op mw) H := hP
  refine kb_eq (tgt := 16) hx hb dX1_probeOut_11 (by decide) (fun h => absurd h (by decide)) (fun _ => ?_)
  refine lv_iconst (v := nI 0) hx hb dX1_probeOut_14 (by decide) ?_
  refine W.widen (k := 0) (n := 0) (Nat.le_of_ble_eq_true rfl) (Nat.le_of_ble_eq_true rfl) ?_
  exact W.iret (v := nI 0) hx hb hr (fun t9 ht9 hW9 => ⟨⟨_, rfl, rfl, by rw [ht9]; exact hP⟩, hS.F ht9⟩) hS.2.2 dX1_probeOut_15
set_option maxHeartbeats 4000000 in
set_option maxRecDepth 100000 in
theorem c_X1_run_bad (l : Launch) (D : va_G) (k0 kv ko ks km kt kp kb : Nat) (cZ cD cI : ClassId) (th : Nat) (mv : Nat → UInt64) (io : Nat → Bool) (sz : Nat → Nat) (mk : Nat → UInt64) (se : Nat → Bool) (pv : Nat → UInt64) (pd : Nat → Bool) (op : Bool) (mw : Int32) (hsz : ∀ j, sz j ≤ 12) (zz : Nat) (x0 : Int32) (x1 : Int32) (x2 : Int32) (b : Bool) (hbad : ¬ (InN 6 x0 ∧ InN 2 x1 ∧ InN 6 x2)) : Met l yX1_run wsX1_run ({ frames := 1, cells := 0, slots := 0, locals := 23 }) (va_Pc [.ref k0, .int x0, .int x1, .int x2, .int (b2i b)] (fun U => U.heap.size = zz ∧ va_P D vwCl (WM k0 kv ko ks km kt kp kb cZ cD cI th mv io sz mk se pv pd op mw) U.heap ∧ va_K D vwCl (TY cZ cD cI) U ∧ va_D (fun _ => True) (WM k0 kv ko ks km kt kp kb cZ cD cI th mv io sz mk se pv pd op mw))) (wr_Qi (fun r => r = nI 0) (fun H => va_P D vwCl (WM k0 kv ko ks km kt kp kb cZ cD cI (thr true false false) mv io sz mk se pv pd op mw) H) (va_A (WM k0 kv ko ks km kt kp kb cZ cD cI th mv io sz mk se pv pd op mw) zz))  0 0 (va_A (WM k0 kv ko ks km kt kp kb cZ cD cI th mv io sz mk se pv pd op mw) zz) := by
  refine Met.ofW (cc := cX1_run) (maxL := 10) (ret := some .int) (by decide) rfl ?_
  intro p e s m args below meth c s₁ B hml hv
  obtain ⟨rfl, hsz_, hP, hK, hD0⟩ := hv
  have hx := B.exec
  have hb := B.bytes
  have hr := B.returns
  have hts := atoms_spec (ws := wsX1_run) B.pre
  have hown : s.vm.findClass RX1 = some m.cls := findClass_of_methodNamed B.named
  have hlocks := B.notSynchronized
  subst hsz_
  have hD := hD0.self (sz := s.heap.size)
  generalize hAe : va_A (WM k0 kv ko ks km kt kp kb cZ cD cI th mv io sz mk se pv pd op mw) s.heap.size = A at hD ⊢
  have hA : ∀ q : Nat, s.heap.size ≤ q → A q := fun q h => by rw [← hAe]; exact Or.inr h
  have hS : va_S A s.heap s.heap [] := va_S.rf
  have hl := lv_entry ([.ref k0, .int x0, .int x1, .int x2, .int (b2i b)]) (n := 10) (Nat.le_of_ble_eq_true rfl)
  rw [lg_entry_eq]
  generalize (lg_sl ([.ref k0, .int x0, .int x1, .int x2, .int (b2i b)]) ++ List.replicate (10 - (lg_sl ([.ref k0, .int x0, .int x1, .int x2, .int (b2i b)])).length) Slot.unset).toArray = ls at hl ⊢
  have hl : lv_has ls 10 [(0, .ref k0), (1, .int x0), (2, .int x1), (3, .int x2), (4, .int (b2i b))] := hl
  refine lv_aload_n hx hb dX1_run_0 rfl (lv_at hl 0 rfl) ?_
  refine lv_iload_n hx hb dX1_run_1 rfl (lv_at hl 1 rfl) ?_
  refine lv_iconst (v := nI 5) hx hb dX1_run_2 (by decide) ?_
  refine rd_calli (va_runS (As := [.int x0, .int (nI 5)]) (rest := [.ref k0]) ⟨hx, hb, hml, hown, hts⟩ (c_X1_outside l x0 5 ) (va_cwS 2 hts gX1_run_X1_outside rfl rfl rfl (by decide +kernel) ⟨Nat.le_of_ble_eq_true rfl, Nat.le_of_ble_eq_true rfl⟩) ⟨fun a U g mk q => q, fun U hU hW => ⟨rfl, trivial⟩⟩ rfl rfl hl.1 rfl (lv_room (Nat.le_of_ble_eq_true rfl)) dX1_run_3 ⟨Nat.le_of_ble_eq_true rfl, Nat.le_of_ble_eq_true rfl⟩) (fun r_1 hr_1 => ?_)
  subst hr_1
  refine kb_ne (tgt := 25) hx hb dX1_run_6 (by decide) (fun c_2 => ?_) (fun c_2 => ?_)
  · refine lv_iconst (v := nI 1) hx hb dX1_run_25 (by decide) ?_
    refine lv_goto (tgt := 30) hx hb dX1_run_26 (by decide) ?_
    refine lv_iconst (v := nI 0) hx hb dX1_run_30 (by decide) ?_
    refine lv_iconst (v := nI 0) hx hb dX1_run_31 (by decide) ?_
    have hFc := va_free (wc := WM k0 kv ko ks km kt kp kb cZ cD cI th mv io sz mk se pv pd op mw) hD hS hA [0, 1, 2, 3, 4, 5, 6, 7] rfl
    refine wr_calli (va_runV (As := [.int (b2i true), .int (b2i false), .int (b2i false)]) (rest := []) ⟨hx, hb, hml, hown, hts⟩ (c_X1_throwing l D k0 kv ko ks km kt kp kb cZ cD cI th mv io sz mk se pv pd op mw hsz s.heap.size true false false ) (cwV 3 hts gX1_run_X1_throwing rfl rfl rfl (by decide +kernel) ⟨Nat.le_of_ble_eq_true rfl, Nat.le_of_ble_eq_true rfl⟩) ⟨fun a U g mk q => ⟨q.1, q.2.1, q.2.2.1, va_K.moved (u := U) (U := U.calling g mk a) (Vm.Alike.refl U.vm) q.2.2.2.1, q.2.2.2.2⟩, va_recv hK hP (ci := 2) (q0 := 0) rfl rfl, fun U hU hW => ⟨rfl, by rw [hU], by rw [hU]; exact hP, va_K.moved hW.alike hK, hD.weaken (fun _ _ _ _ => trivial)⟩⟩ rfl rfl hl.1 rfl (lv_room (Nat.le_of_ble_eq_true rfl)) dX1_run_32 ⟨Nat.le_of_ble_eq_true rfl, Nat.le_of_ble_eq_true rfl⟩) hS hFc (fun r_3 H locs hr_3 hP _ _ hS => ?_)
    subst hr_3
    refine kt_i (y := b2i true) rfl ?_
    have hD : va_D A (WM k0 kv ko ks km kt kp kb cZ cD cI (thr true false false) mv io sz mk se pv pd op mw) := va_D_same (ws := WM k0 kv ko ks km kt kp kb cZ cD cI th mv io sz mk se pv pd op mw) rfl hD
    have hP : va_P D vwCl (WM k0 kv ko ks km kt kp kb cZ cD cI (thr true false false) mv io sz mk se pv pd op mw) H := hP
    refine kb_eq (tgt := 40) hx hb dX1_run_35 (by decide) (fun h => absurd h (by decide)) (fun _ => ?_)
    refine lv_iconst (v := nI 0) hx hb dX1_run_38 (by decide) ?_
    refine W.widen (k := 0) (n := 0) (Nat.le_of_ble_eq_true rfl) (Nat.le_of_ble_eq_true rfl) ?_
    exact W.iret (v := nI 0) hx hb hr (fun t9 ht9 hW9 => ⟨⟨_, rfl, rfl, by rw [ht9]; exact hP⟩, hS.F ht9⟩) hS.2.2 dX1_run_39
  · refine lv_iload_n hx hb dX1_run_9 rfl (lv_at hl 2 rfl) ?_
    refine lv_iconst (v := nI 1) hx hb dX1_run_10 (by decide) ?_
    refine rd_calli (va_runS (As := [.int x1, .int (nI 1)]) (rest := [.ref k0]) ⟨hx, hb, hml, hown, hts⟩ (c_X1_outside l x1 1 ) (va_cwS 2 hts gX1_run_X1_outside rfl rfl rfl (by decide +kernel) ⟨Nat.le_of_ble_eq_true rfl, Nat.le_of_ble_eq_true rfl⟩) ⟨fun a U g mk q => q, fun U hU hW => ⟨rfl, trivial⟩⟩ rfl rfl hl.1 rfl (lv_room (Nat.le_of_ble_eq_true rfl)) dX1_run_11 ⟨Nat.le_of_ble_eq_true rfl, Nat.le_of_ble_eq_true rfl⟩) (fun r_4 hr_4 => ?_)
    subst hr_4
    refine kb_ne (tgt := 25) hx hb dX1_run_14 (by decide) (fun c_5 => ?_) (fun c_5 => ?_)
    · refine lv_iconst (v := nI 1) hx hb dX1_run_25 (by decide) ?_
      refine lv_goto (tgt := 30) hx hb dX1_run_26 (by decide) ?_
      refine lv_iconst (v := nI 0) hx hb dX1_run_30 (by decide) ?_
      refine lv_iconst (v := nI 0) hx hb dX1_run_31 (by decide) ?_
      have hFc := va_free (wc := WM k0 kv ko ks km kt kp kb cZ cD cI th mv io sz mk se pv pd op mw) hD hS hA [0, 1, 2, 3, 4, 5, 6, 7] rfl
      refine wr_calli (va_runV (As := [.int (b2i true), .int (b2i false), .int (b2i false)]) (rest := []) ⟨hx, hb, hml, hown, hts⟩ (c_X1_throwing l D k0 kv ko ks km kt kp kb cZ cD cI th mv io sz mk se pv pd op mw hsz s.heap.size true false false ) (cwV 3 hts gX1_run_X1_throwing rfl rfl rfl (by decide +kernel) ⟨Nat.le_of_ble_eq_true rfl, Nat.le_of_ble_eq_true rfl⟩) ⟨fun a U g mk q => ⟨q.1, q.2.1, q.2.2.1, va_K.moved (u := U) (U := U.calling g mk a) (Vm.Alike.refl U.vm) q.2.2.2.1, q.2.2.2.2⟩, va_recv hK hP (ci := 2) (q0 := 0) rfl rfl, fun U hU hW => ⟨rfl, by rw [hU], by rw [hU]; exact hP, va_K.moved hW.alike hK, hD.weaken (fun _ _ _ _ => trivial)⟩⟩ rfl rfl hl.1 rfl (lv_room (Nat.le_of_ble_eq_true rfl)) dX1_run_32 ⟨Nat.le_of_ble_eq_true rfl, Nat.le_of_ble_eq_true rfl⟩) hS hFc (fun r_6 H locs hr_6 hP _ _ hS => ?_)
      subst hr_6
      refine kt_i (y := b2i true) rfl ?_
      have hD : va_D A (WM k0 kv ko ks km kt kp kb cZ cD cI (thr true false false) mv io sz mk se pv pd op mw) := va_D_same (ws := WM k0 kv ko ks km kt kp kb cZ cD cI th mv io sz mk se pv pd op mw) rfl hD
      have hP : va_P D vwCl (WM k0 kv ko ks km kt kp kb cZ cD cI (thr true false false) mv io sz mk se pv pd op mw) H := hP
      refine kb_eq (tgt := 40) hx hb dX1_run_35 (by decide) (fun h => absurd h (by decide)) (fun _ => ?_)
      refine lv_iconst (v := nI 0) hx hb dX1_run_38 (by decide) ?_
      refine W.widen (k := 0) (n := 0) (Nat.le_of_ble_eq_true rfl) (Nat.le_of_ble_eq_true rfl) ?_
      exact W.iret (v := nI 0) hx hb hr (fun t9 ht9 hW9 => ⟨⟨_, rfl, rfl, by rw [ht9]; exact hP⟩, hS.F ht9⟩) hS.2.2 dX1_run_39
    · refine lv_iload_n hx hb dX1_run_17 rfl (lv_at hl 3 rfl) ?_
      refine lv_iconst (v := nI 5) hx hb dX1_run_18 (by decide) ?_
      refine rd_calli (va_runS (As := [.int x2, .int (nI 5)]) (rest := [.ref k0]) ⟨hx, hb, hml, hown, hts⟩ (c_X1_outside l x2 5 ) (va_cwS 2 hts gX1_run_X1_outside rfl rfl rfl (by decide +kernel) ⟨Nat.le_of_ble_eq_true rfl, Nat.le_of_ble_eq_true rfl⟩) ⟨fun a U g mk q => q, fun U hU hW => ⟨rfl, trivial⟩⟩ rfl rfl hl.1 rfl (lv_room (Nat.le_of_ble_eq_true rfl)) dX1_run_19 ⟨Nat.le_of_ble_eq_true rfl, Nat.le_of_ble_eq_true rfl⟩) (fun r_7 hr_7 => ?_)
      subst hr_7
      refine kb_eq (tgt := 29) hx hb dX1_run_22 (by decide) (fun c_8 => ?_) (fun c_8 => ?_)
      · refine lv_iconst (v := nI 0) hx hb dX1_run_29 (by decide) ?_
        exact absurd (show InN 6 x0 ∧ InN 2 x1 ∧ InN 6 x2 from ⟨outs_in (by decide) c_2, outs_in (by decide) c_5, outs_in (by decide) c_8⟩) hbad
      · refine lv_iconst (v := nI 1) hx hb dX1_run_25 (by decide) ?_
        refine lv_goto (tgt := 30) hx hb dX1_run_26 (by decide) ?_
        refine lv_iconst (v := nI 0) hx hb dX1_run_30 (by decide) ?_
        refine lv_iconst (v := nI 0) hx hb dX1_run_31 (by decide) ?_
        have hFc := va_free (wc := WM k0 kv ko ks km kt kp kb cZ cD cI th mv io sz mk se pv pd op mw) hD hS hA [0, 1, 2, 3, 4, 5, 6, 7] rfl
        refine wr_calli (va_runV (As := [.int (b2i true), .int (b2i false), .int (b2i false)]) (rest := []) ⟨hx, hb, hml, hown, hts⟩ (c_X1_throwing l D k0 kv ko ks km kt kp kb cZ cD cI th mv io sz mk se pv pd op mw hsz s.heap.size true false false ) (cwV 3 hts gX1_run_X1_throwing rfl rfl rfl (by decide +kernel) ⟨Nat.le_of_ble_eq_true rfl, Nat.le_of_ble_eq_true rfl⟩) ⟨fun a U g mk q => ⟨q.1, q.2.1, q.2.2.1, va_K.moved (u := U) (U := U.calling g mk a) (Vm.Alike.refl U.vm) q.2.2.2.1, q.2.2.2.2⟩, va_recv hK hP (ci := 2) (q0 := 0) rfl rfl, fun U hU hW => ⟨rfl, by rw [hU], by rw [hU]; exact hP, va_K.moved hW.alike hK, hD.weaken (fun _ _ _ _ => trivial)⟩⟩ rfl rfl hl.1 rfl (lv_room (Nat.le_of_ble_eq_true rfl)) dX1_run_32 ⟨Nat.le_of_ble_eq_true rfl, Nat.le_of_ble_eq_true rfl⟩) hS hFc (fun r_9 H locs hr_9 hP _ _ hS => ?_)
        subst hr_9
        refine kt_i (y := b2i true) rfl ?_
        have hD : va_D A (WM k0 kv ko ks km kt kp kb cZ cD cI (thr true false false) mv io sz mk se pv pd op mw) := va_D_same (ws := WM k0 kv ko ks km kt kp kb cZ cD cI th mv io sz mk se pv pd op mw) rfl hD
        have hP : va_P D vwCl (WM k0 kv ko ks km kt kp kb cZ cD cI (thr true false false) mv io sz mk se pv pd op mw) H := hP
        refine kb_eq (tgt := 40) hx hb dX1_run_35 (by decide) (fun h => absurd h (by decide)) (fun _ => ?_)
        refine lv_iconst (v := nI 0) hx hb dX1_run_38 (by decide) ?_
        refine W.widen (k := 0) (n := 0) (Nat.le_of_ble_eq_true rfl) (Nat.le_of_ble_eq_true rfl) ?_
        exact W.iret (v := nI 0) hx hb hr (fun t9 ht9 hW9 => ⟨⟨_, rfl, rfl, by rw [ht9]; exact hP⟩, hS.F ht9⟩) hS.2.2 dX1_run_39
set_option maxHeartbeats 4000000 in
set_option maxRecDepth 100000 in
theorem c_X1_count_bad (l : Launch) (D : va_G) (k0 kv ko ks km kt kp kb : Nat) (cZ cD cI : ClassId) (th : Nat) (mv : Nat → UInt64) (io : Nat → Bool) (sz : Nat → Nat) (mk : Nat → UInt64) (se : Nat → Bool) (pv : Nat → UInt64) (pd : Nat → Bool) (op : Bool) (mw : Int32) (hsz : ∀ j, sz j ≤ 12) (zz : Nat) (x0 : Int32) (x1 : Int32) (x2 : Int32) (b : Bool) (hbad : ¬ (InN 6 x0 ∧ InN 2 x1 ∧ InN 6 x2)) : Met l yX1_count wsX1_count ({ frames := 1, cells := 0, slots := 0, locals := 23 }) (va_Pc [.ref k0, .int x0, .int x1, .int x2, .int (b2i b)] (fun U => U.heap.size = zz ∧ va_P D vwCl (WM k0 kv ko ks km kt kp kb cZ cD cI th mv io sz mk se pv pd op mw) U.heap ∧ va_K D vwCl (TY cZ cD cI) U ∧ va_D (fun _ => True) (WM k0 kv ko ks km kt kp kb cZ cD cI th mv io sz mk se pv pd op mw))) (wr_Qi (fun r => r = nI 0) (fun H => va_P D vwCl (WM k0 kv ko ks km kt kp kb cZ cD cI (thr true false false) mv io sz mk se pv pd op mw) H) (va_A (WM k0 kv ko ks km kt kp kb cZ cD cI th mv io sz mk se pv pd op mw) zz))  0 0 (va_A (WM k0 kv ko ks km kt kp kb cZ cD cI th mv io sz mk se pv pd op mw) zz) := by
  refine Met.ofW (cc := cX1_count) (maxL := 8) (ret := some .int) (by decide) rfl ?_
  intro p e s m args below meth c s₁ B hml hv
  obtain ⟨rfl, hsz_, hP, hK, hD0⟩ := hv
  have hx := B.exec
  have hb := B.bytes
  have hr := B.returns
  have hts := atoms_spec (ws := wsX1_count) B.pre
  have hown : s.vm.findClass RX1 = some m.cls := findClass_of_methodNamed B.named
  have hlocks := B.notSynchronized
  subst hsz_
  have hD := hD0.self (sz := s.heap.size)
  generalize hAe : va_A (WM k0 kv ko ks km kt kp kb cZ cD cI th mv io sz mk se pv pd op mw) s.heap.size = A at hD ⊢
  have hA : ∀ q : Nat, s.heap.size ≤ q → A q := fun q h => by rw [← hAe]; exact Or.inr h
  have hS : va_S A s.heap s.heap [] := va_S.rf
  have hl := lv_entry ([.ref k0, .int x0, .int x1, .int x2, .int (b2i b)]) (n := 8) (Nat.le_of_ble_eq_true rfl)
  rw [lg_entry_eq]
  generalize (lg_sl ([.ref k0, .int x0, .int x1, .int x2, .int (b2i b)]) ++ List.replicate (8 - (lg_sl ([.ref k0, .int x0, .int x1, .int x2, .int (b2i b)])).length) Slot.unset).toArray = ls at hl ⊢
  have hl : lv_has ls 8 [(0, .ref k0), (1, .int x0), (2, .int x1), (3, .int x2), (4, .int (b2i b))] := hl
  refine lv_aload_n hx hb dX1_count_0 rfl (lv_at hl 0 rfl) ?_
  refine lv_iload_n hx hb dX1_count_1 rfl (lv_at hl 1 rfl) ?_
  refine lv_iconst (v := nI 5) hx hb dX1_count_2 (by decide) ?_
  refine rd_calli (va_runS (As := [.int x0, .int (nI 5)]) (rest := [.ref k0]) ⟨hx, hb, hml, hown, hts⟩ (c_X1_outside l x0 5 ) (va_cwS 2 hts gX1_count_X1_outside rfl rfl rfl (by decide +kernel) ⟨Nat.le_of_ble_eq_true rfl, Nat.le_of_ble_eq_true rfl⟩) ⟨fun a U g mk q => q, fun U hU hW => ⟨rfl, trivial⟩⟩ rfl rfl hl.1 rfl (lv_room (Nat.le_of_ble_eq_true rfl)) dX1_count_3 ⟨Nat.le_of_ble_eq_true rfl, Nat.le_of_ble_eq_true rfl⟩) (fun r_1 hr_1 => ?_)
  subst hr_1
  refine kb_ne (tgt := 25) hx hb dX1_count_6 (by decide) (fun c_2 => ?_) (fun c_2 => ?_)
  · refine lv_iconst (v := nI 1) hx hb dX1_count_25 (by decide) ?_
    refine lv_goto (tgt := 30) hx hb dX1_count_26 (by decide) ?_
    refine lv_iconst (v := nI 0) hx hb dX1_count_30 (by decide) ?_
    refine lv_iconst (v := nI 0) hx hb dX1_count_31 (by decide) ?_
    have hFc := va_free (wc := WM k0 kv ko ks km kt kp kb cZ cD cI th mv io sz mk se pv pd op mw) hD hS hA [0, 1, 2, 3, 4, 5, 6, 7] rfl
    refine wr_calli (va_runV (As := [.int (b2i true), .int (b2i false), .int (b2i false)]) (rest := []) ⟨hx, hb, hml, hown, hts⟩ (c_X1_throwing l D k0 kv ko ks km kt kp kb cZ cD cI th mv io sz mk se pv pd op mw hsz s.heap.size true false false ) (cwV 3 hts gX1_count_X1_throwing rfl rfl rfl (by decide +kernel) ⟨Nat.le_of_ble_eq_true rfl, Nat.le_of_ble_eq_true rfl⟩) ⟨fun a U g mk q => ⟨q.1, q.2.1, q.2.2.1, va_K.moved (u := U) (U := U.calling g mk a) (Vm.Alike.refl U.vm) q.2.2.2.1, q.2.2.2.2⟩, va_recv hK hP (ci := 2) (q0 := 0) rfl rfl, fun U hU hW => ⟨rfl, by rw [hU], by rw [hU]; exact hP, va_K.moved hW.alike hK, hD.weaken (fun _ _ _ _ => trivial)⟩⟩ rfl rfl hl.1 rfl (lv_room (Nat.le_of_ble_eq_true rfl)) dX1_count_32 ⟨Nat.le_of_ble_eq_true rfl, Nat.le_of_ble_eq_true rfl⟩) hS hFc (fun r_3 H locs hr_3 hP _ _ hS => ?_)
    subst hr_3
    refine kt_i (y := b2i true) rfl ?_
    have hD : va_D A (WM k0 kv ko ks km kt kp kb cZ cD cI (thr true false false) mv io sz mk se pv pd op mw) := va_D_same (ws := WM k0 kv ko ks km kt kp kb cZ cD cI th mv io sz mk se pv pd op mw) rfl hD
    have hP : va_P D vwCl (WM k0 kv ko ks km kt kp kb cZ cD cI (thr true false false) mv io sz mk se pv pd op mw) H := hP
    refine kb_eq (tgt := 40) hx hb dX1_count_35 (by decide) (fun h => absurd h (by decide)) (fun _ => ?_)
    refine lv_iconst (v := nI 0) hx hb dX1_count_38 (by decide) ?_
    refine W.widen (k := 0) (n := 0) (Nat.le_of_ble_eq_true rfl) (Nat.le_of_ble_eq_true rfl) ?_
    exact W.iret (v := nI 0) hx hb hr (fun t9 ht9 hW9 => ⟨⟨_, rfl, rfl, by rw [ht9]; exact hP⟩, hS.F ht9⟩) hS.2.2 dX1_count_39
  · refine lv_iload_n hx hb dX1_count_9 rfl (lv_at hl 2 rfl) ?_
    refine lv_iconst (v := nI 1) hx hb dX1_count_10 (by decide) ?_
    refine rd_calli (va_runS (As := [.int x1, .int (nI 1)]) (rest := [.ref k0]) ⟨hx, hb, hml, hown, hts⟩ (c_X1_outside l x1 1 ) (va_cwS 2 hts gX1_count_X1_outside rfl rfl rfl (by decide +kernel) ⟨Nat.le_of_ble_eq_true rfl, Nat.le_of_ble_eq_true rfl⟩) ⟨fun a U g mk q => q, fun U hU hW => ⟨rfl, trivial⟩⟩ rfl rfl hl.1 rfl (lv_room (Nat.le_of_ble_eq_true rfl)) dX1_count_11 ⟨Nat.le_of_ble_eq_true rfl, Nat.le_of_ble_eq_true rfl⟩) (fun r_4 hr_4 => ?_)
    subst hr_4
    refine kb_ne (tgt := 25) hx hb dX1_count_14 (by decide) (fun c_5 => ?_) (fun c_5 => ?_)
    · refine lv_iconst (v := nI 1) hx hb dX1_count_25 (by decide) ?_
      refine lv_goto (tgt := 30) hx hb dX1_count_26 (by decide) ?_
      refine lv_iconst (v := nI 0) hx hb dX1_count_30 (by decide) ?_
      refine lv_iconst (v := nI 0) hx hb dX1_count_31 (by decide) ?_
      have hFc := va_free (wc := WM k0 kv ko ks km kt kp kb cZ cD cI th mv io sz mk se pv pd op mw) hD hS hA [0, 1, 2, 3, 4, 5, 6, 7] rfl
      refine wr_calli (va_runV (As := [.int (b2i true), .int (b2i false), .int (b2i false)]) (rest := []) ⟨hx, hb, hml, hown, hts⟩ (c_X1_throwing l D k0 kv ko ks km kt kp kb cZ cD cI th mv io sz mk se pv pd op mw hsz s.heap.size true false false ) (cwV 3 hts gX1_count_X1_throwing rfl rfl rfl (by decide +kernel) ⟨Nat.le_of_ble_eq_true rfl, Nat.le_of_ble_eq_true rfl⟩) ⟨fun a U g mk q => ⟨q.1, q.2.1, q.2.2.1, va_K.moved (u := U) (U := U.calling g mk a) (Vm.Alike.refl U.vm) q.2.2.2.1, q.2.2.2.2⟩, va_recv hK hP (ci := 2) (q0 := 0) rfl rfl, fun U hU hW => ⟨rfl, by rw [hU], by rw [hU]; exact hP, va_K.moved hW.alike hK, hD.weaken (fun _ _ _ _ => trivial)⟩⟩ rfl rfl hl.1 rfl (lv_room (Nat.le_of_ble_eq_true rfl)) dX1_count_32 ⟨Nat.le_of_ble_eq_true rfl, Nat.le_of_ble_eq_true rfl⟩) hS hFc (fun r_6 H locs hr_6 hP _ _ hS => ?_)
      subst hr_6
      refine kt_i (y := b2i true) rfl ?_
      have hD : va_D A (WM k0 kv ko ks km kt kp kb cZ cD cI (thr true false false) mv io sz mk se pv pd op mw) := va_D_same (ws := WM k0 kv ko ks km kt kp kb cZ cD cI th mv io sz mk se pv pd op mw) rfl hD
      have hP : va_P D vwCl (WM k0 kv ko ks km kt kp kb cZ cD cI (thr true false false) mv io sz mk se pv pd op mw) H := hP
      refine kb_eq (tgt := 40) hx hb dX1_count_35 (by decide) (fun h => absurd h (by decide)) (fun _ => ?_)
      refine lv_iconst (v := nI 0) hx hb dX1_count_38 (by decide) ?_
      refine W.widen (k := 0) (n := 0) (Nat.le_of_ble_eq_true rfl) (Nat.le_of_ble_eq_true rfl) ?_
      exact W.iret (v := nI 0) hx hb hr (fun t9 ht9 hW9 => ⟨⟨_, rfl, rfl, by rw [ht9]; exact hP⟩, hS.F ht9⟩) hS.2.2 dX1_count_39
    · refine lv_iload_n hx hb dX1_count_17 rfl (lv_at hl 3 rfl) ?_
      refine lv_iconst (v := nI 5) hx hb dX1_count_18 (by decide) ?_
      refine rd_calli (va_runS (As := [.int x2, .int (nI 5)]) (rest := [.ref k0]) ⟨hx, hb, hml, hown, hts⟩ (c_X1_outside l x2 5 ) (va_cwS 2 hts gX1_count_X1_outside rfl rfl rfl (by decide +kernel) ⟨Nat.le_of_ble_eq_true rfl, Nat.le_of_ble_eq_true rfl⟩) ⟨fun a U g mk q => q, fun U hU hW => ⟨rfl, trivial⟩⟩ rfl rfl hl.1 rfl (lv_room (Nat.le_of_ble_eq_true rfl)) dX1_count_19 ⟨Nat.le_of_ble_eq_true rfl, Nat.le_of_ble_eq_true rfl⟩) (fun r_7 hr_7 => ?_)
      subst hr_7
      refine kb_eq (tgt := 29) hx hb dX1_count_22 (by decide) (fun c_8 => ?_) (fun c_8 => ?_)
      · refine lv_iconst (v := nI 0) hx hb dX1_count_29 (by decide) ?_
        exact absurd (show InN 6 x0 ∧ InN 2 x1 ∧ InN 6 x2 from ⟨outs_in (by decide) c_2, outs_in (by decide) c_5, outs_in (by decide) c_8⟩) hbad
      · refine lv_iconst (v := nI 1) hx hb dX1_count_25 (by decide) ?_
        refine lv_goto (tgt := 30) hx hb dX1_count_26 (by decide) ?_
        refine lv_iconst (v := nI 0) hx hb dX1_count_30 (by decide) ?_
        refine lv_iconst (v := nI 0) hx hb dX1_count_31 (by decide) ?_
        have hFc := va_free (wc := WM k0 kv ko ks km kt kp kb cZ cD cI th mv io sz mk se pv pd op mw) hD hS hA [0, 1, 2, 3, 4, 5, 6, 7] rfl
        refine wr_calli (va_runV (As := [.int (b2i true), .int (b2i false), .int (b2i false)]) (rest := []) ⟨hx, hb, hml, hown, hts⟩ (c_X1_throwing l D k0 kv ko ks km kt kp kb cZ cD cI th mv io sz mk se pv pd op mw hsz s.heap.size true false false ) (cwV 3 hts gX1_count_X1_throwing rfl rfl rfl (by decide +kernel) ⟨Nat.le_of_ble_eq_true rfl, Nat.le_of_ble_eq_true rfl⟩) ⟨fun a U g mk q => ⟨q.1, q.2.1, q.2.2.1, va_K.moved (u := U) (U := U.calling g mk a) (Vm.Alike.refl U.vm) q.2.2.2.1, q.2.2.2.2⟩, va_recv hK hP (ci := 2) (q0 := 0) rfl rfl, fun U hU hW => ⟨rfl, by rw [hU], by rw [hU]; exact hP, va_K.moved hW.alike hK, hD.weaken (fun _ _ _ _ => trivial)⟩⟩ rfl rfl hl.1 rfl (lv_room (Nat.le_of_ble_eq_true rfl)) dX1_count_32 ⟨Nat.le_of_ble_eq_true rfl, Nat.le_of_ble_eq_true rfl⟩) hS hFc (fun r_9 H locs hr_9 hP _ _ hS => ?_)
        subst hr_9
        refine kt_i (y := b2i true) rfl ?_
        have hD : va_D A (WM k0 kv ko ks km kt kp kb cZ cD cI (thr true false false) mv io sz mk se pv pd op mw) := va_D_same (ws := WM k0 kv ko ks km kt kp kb cZ cD cI th mv io sz mk se pv pd op mw) rfl hD
        have hP : va_P D vwCl (WM k0 kv ko ks km kt kp kb cZ cD cI (thr true false false) mv io sz mk se pv pd op mw) H := hP
        refine kb_eq (tgt := 40) hx hb dX1_count_35 (by decide) (fun h => absurd h (by decide)) (fun _ => ?_)
        refine lv_iconst (v := nI 0) hx hb dX1_count_38 (by decide) ?_
        refine W.widen (k := 0) (n := 0) (Nat.le_of_ble_eq_true rfl) (Nat.le_of_ble_eq_true rfl) ?_
        exact W.iret (v := nI 0) hx hb hr (fun t9 ht9 hW9 => ⟨⟨_, rfl, rfl, by rw [ht9]; exact hP⟩, hS.F ht9⟩) hS.2.2 dX1_count_39
set_option maxHeartbeats 4000000 in
set_option maxRecDepth 100000 in
theorem c_X1_holds_bad (l : Launch) (D : va_G) (k0 kv ko ks km kt kp kb : Nat) (cZ cD cI : ClassId) (th : Nat) (mv : Nat → UInt64) (io : Nat → Bool) (sz : Nat → Nat) (mk : Nat → UInt64) (se : Nat → Bool) (pv : Nat → UInt64) (pd : Nat → Bool) (op : Bool) (mw : Int32) (hsz : ∀ j, sz j ≤ 12) (zz : Nat) (x0 : Int32) (x1 : Int32) (x2 : Int32) (x3 : Int32) (hbad : ¬ (InN 6 x0 ∧ InN 6 x1 ∧ InN 2 x2 ∧ InN 6 x3)) : Met l yX1_holds wsX1_holds ({ frames := 1, cells := 0, slots := 0, locals := 23 }) (va_Pc [.ref k0, .int x0, .int x1, .int x2, .int x3] (fun U => U.heap.size = zz ∧ va_P D vwCl (WM k0 kv ko ks km kt kp kb cZ cD cI th mv io sz mk se pv pd op mw) U.heap ∧ va_K D vwCl (TY cZ cD cI) U ∧ va_D (fun _ => True) (WM k0 kv ko ks km kt kp kb cZ cD cI th mv io sz mk se pv pd op mw))) (wr_Qi (fun r => r = b2i false) (fun H => va_P D vwCl (WM k0 kv ko ks km kt kp kb cZ cD cI (thr true false false) mv io sz mk se pv pd op mw) H) (va_A (WM k0 kv ko ks km kt kp kb cZ cD cI th mv io sz mk se pv pd op mw) zz))  0 0 (va_A (WM k0 kv ko ks km kt kp kb cZ cD cI th mv io sz mk se pv pd op mw) zz) := by
  refine Met.ofW (cc := cX1_holds) (maxL := 5) (ret := some .boolean) (by decide) rfl ?_
  intro p e s m args below meth c s₁ B hml hv
  obtain ⟨rfl, hsz_, hP, hK, hD0⟩ := hv
  have hx := B.exec
  have hb := B.bytes
  have hr := B.returns
  have hts := atoms_spec (ws := wsX1_holds) B.pre
  have hown : s.vm.findClass RX1 = some m.cls := findClass_of_methodNamed B.named
  have hlocks := B.notSynchronized
  subst hsz_
  have hD := hD0.self (sz := s.heap.size)
  generalize hAe : va_A (WM k0 kv ko ks km kt kp kb cZ cD cI th mv io sz mk se pv pd op mw) s.heap.size = A at hD ⊢
  have hA : ∀ q : Nat, s.heap.size ≤ q → A q := fun q h => by rw [← hAe]; exact Or.inr h
  have hS : va_S A s.heap s.heap [] := va_S.rf
  have hl := lv_entry ([.ref k0, .int x0, .int x1, .int x2, .int x3]) (n := 5) (Nat.le_of_ble_eq_true rfl)
  rw [lg_entry_eq]
  generalize (lg_sl ([.ref k0, .int x0, .int x1, .int x2, .int x3]) ++ List.replicate (5 - (lg_sl ([.ref k0, .int x0, .int x1, .int x2, .int x3])).length) Slot.unset).toArray = ls at hl ⊢
  have hl : lv_has ls 5 [(0, .ref k0), (1, .int x0), (2, .int x1), (3, .int x2), (4, .int x3)] := hl
  refine lv_aload_n hx hb dX1_holds_0 rfl (lv_at hl 0 rfl) ?_
  refine lv_iload_n hx hb dX1_holds_1 rfl (lv_at hl 1 rfl) ?_
  refine lv_iconst (v := nI 5) hx hb dX1_holds_2 (by decide) ?_
  refine rd_calli (va_runS (As := [.int x0, .int (nI 5)]) (rest := [.ref k0]) ⟨hx, hb, hml, hown, hts⟩ (c_X1_outside l x0 5 ) (va_cwS 2 hts gX1_holds_X1_outside rfl rfl rfl (by decide +kernel) ⟨Nat.le_of_ble_eq_true rfl, Nat.le_of_ble_eq_true rfl⟩) ⟨fun a U g mk q => q, fun U hU hW => ⟨rfl, trivial⟩⟩ rfl rfl hl.1 rfl (lv_room (Nat.le_of_ble_eq_true rfl)) dX1_holds_3 ⟨Nat.le_of_ble_eq_true rfl, Nat.le_of_ble_eq_true rfl⟩) (fun r_1 hr_1 => ?_)
  subst hr_1
  refine kb_ne (tgt := 34) hx hb dX1_holds_6 (by decide) (fun c_2 => ?_) (fun c_2 => ?_)
  · refine lv_iconst (v := nI 1) hx hb dX1_holds_34 (by decide) ?_
    refine lv_goto (tgt := 39) hx hb dX1_holds_35 (by decide) ?_
    refine lv_iconst (v := nI 0) hx hb dX1_holds_39 (by decide) ?_
    refine lv_iconst (v := nI 0) hx hb dX1_holds_40 (by decide) ?_
    have hFc := va_free (wc := WM k0 kv ko ks km kt kp kb cZ cD cI th mv io sz mk se pv pd op mw) hD hS hA [0, 1, 2, 3, 4, 5, 6, 7] rfl
    refine wr_calli (va_runV (As := [.int (b2i true), .int (b2i false), .int (b2i false)]) (rest := []) ⟨hx, hb, hml, hown, hts⟩ (c_X1_throwing l D k0 kv ko ks km kt kp kb cZ cD cI th mv io sz mk se pv pd op mw hsz s.heap.size true false false ) (cwV 3 hts gX1_holds_X1_throwing rfl rfl rfl (by decide +kernel) ⟨Nat.le_of_ble_eq_true rfl, Nat.le_of_ble_eq_true rfl⟩) ⟨fun a U g mk q => ⟨q.1, q.2.1, q.2.2.1, va_K.moved (u := U) (U := U.calling g mk a) (Vm.Alike.refl U.vm) q.2.2.2.1, q.2.2.2.2⟩, va_recv hK hP (ci := 2) (q0 := 0) rfl rfl, fun U hU hW => ⟨rfl, by rw [hU], by rw [hU]; exact hP, va_K.moved hW.alike hK, hD.weaken (fun _ _ _ _ => trivial)⟩⟩ rfl rfl hl.1 rfl (lv_room (Nat.le_of_ble_eq_true rfl)) dX1_holds_41 ⟨Nat.le_of_ble_eq_true rfl, Nat.le_of_ble_eq_true rfl⟩) hS hFc (fun r_3 H locs hr_3 hP _ _ hS => ?_)
    subst hr_3
    refine kt_i (y := b2i true) rfl ?_
    have hD : va_D A (WM k0 kv ko ks km kt kp kb cZ cD cI (thr true false false) mv io sz mk se pv pd op mw) := va_D_same (ws := WM k0 kv ko ks km kt kp kb cZ cD cI th mv io sz mk se pv pd op mw) rfl hD
    have hP : va_P D vwCl (WM k0 kv ko ks km kt kp kb cZ cD cI (thr true false false) mv io sz mk se pv pd op mw) H := hP
    refine kb_eq (tgt := 49) hx hb dX1_holds_44 (by decide) (fun h => absurd h (by decide)) (fun _ => ?_)
    refine lv_iconst (v := nI 0) hx hb dX1_holds_47 (by decide) ?_
    refine kt_i (y := b2i false) rfl ?_
    refine W.widen (k := 0) (n := 0) (Nat.le_of_ble_eq_true rfl) (Nat.le_of_ble_eq_true rfl) ?_
    exact W.zret (v := b2i false) hx hb hr (b2i_nar _) (fun t9 ht9 hW9 => ⟨⟨_, rfl, rfl, by rw [ht9]; exact hP⟩, hS.F ht9⟩) hS.2.2 dX1_holds_48
  · refine lv_iload_n hx hb dX1_holds_9 rfl (lv_at hl 2 rfl) ?_
    refine lv_iconst (v := nI 5) hx hb dX1_holds_10 (by decide) ?_
    refine rd_calli (va_runS (As := [.int x1, .int (nI 5)]) (rest := [.ref k0]) ⟨hx, hb, hml, hown, hts⟩ (c_X1_outside l x1 5 ) (va_cwS 2 hts gX1_holds_X1_outside rfl rfl rfl (by decide +kernel) ⟨Nat.le_of_ble_eq_true rfl, Nat.le_of_ble_eq_true rfl⟩) ⟨fun a U g mk q => q, fun U hU hW => ⟨rfl, trivial⟩⟩ rfl rfl hl.1 rfl (lv_room (Nat.le_of_ble_eq_true rfl)) dX1_holds_11 ⟨Nat.le_of_ble_eq_true rfl, Nat.le_of_ble_eq_true rfl⟩) (fun r_4 hr_4 => ?_)
    subst hr_4
    refine kb_ne (tgt := 34) hx hb dX1_holds_14 (by decide) (fun c_5 => ?_) (fun c_5 => ?_)
    · refine lv_iconst (v := nI 1) hx hb dX1_holds_34 (by decide) ?_
      refine lv_goto (tgt := 39) hx hb dX1_holds_35 (by decide) ?_
      refine lv_iconst (v := nI 0) hx hb dX1_holds_39 (by decide) ?_
      refine lv_iconst (v := nI 0) hx hb dX1_holds_40 (by decide) ?_
      have hFc := va_free (wc := WM k0 kv ko ks km kt kp kb cZ cD cI th mv io sz mk se pv pd op mw) hD hS hA [0, 1, 2, 3, 4, 5, 6, 7] rfl
      refine wr_calli (va_runV (As := [.int (b2i true), .int (b2i false), .int (b2i false)]) (rest := []) ⟨hx, hb, hml, hown, hts⟩ (c_X1_throwing l D k0 kv ko ks km kt kp kb cZ cD cI th mv io sz mk se pv pd op mw hsz s.heap.size true false false ) (cwV 3 hts gX1_holds_X1_throwing rfl rfl rfl (by decide +kernel) ⟨Nat.le_of_ble_eq_true rfl, Nat.le_of_ble_eq_true rfl⟩) ⟨fun a U g mk q => ⟨q.1, q.2.1, q.2.2.1, va_K.moved (u := U) (U := U.calling g mk a) (Vm.Alike.refl U.vm) q.2.2.2.1, q.2.2.2.2⟩, va_recv hK hP (ci := 2) (q0 := 0) rfl rfl, fun U hU hW => ⟨rfl, by rw [hU], by rw [hU]; exact hP, va_K.moved hW.alike hK, hD.weaken (fun _ _ _ _ => trivial)⟩⟩ rfl rfl hl.1 rfl (lv_room (Nat.le_of_ble_eq_true rfl)) dX1_holds_41 ⟨Nat.le_of_ble_eq_true rfl, Nat.le_of_ble_eq_true rfl⟩) hS hFc (fun r_6 H locs hr_6 hP _ _ hS => ?_)
      subst hr_6
      refine kt_i (y := b2i true) rfl ?_
      have hD : va_D A (WM k0 kv ko ks km kt kp kb cZ cD cI (thr true false false) mv io sz mk se pv pd op mw) := va_D_same (ws := WM k0 kv ko ks km kt kp kb cZ cD cI th mv io sz mk se pv pd op mw) rfl hD
      have hP : va_P D vwCl (WM k0 kv ko ks km kt kp kb cZ cD cI (thr true false false) mv io sz mk se pv pd op mw) H := hP
      refine kb_eq (tgt := 49) hx hb dX1_holds_44 (by decide) (fun h => absurd h (by decide)) (fun _ => ?_)
      refine lv_iconst (v := nI 0) hx hb dX1_holds_47 (by decide) ?_
      refine kt_i (y := b2i false) rfl ?_
      refine W.widen (k := 0) (n := 0) (Nat.le_of_ble_eq_true rfl) (Nat.le_of_ble_eq_true rfl) ?_
      exact W.zret (v := b2i false) hx hb hr (b2i_nar _) (fun t9 ht9 hW9 => ⟨⟨_, rfl, rfl, by rw [ht9]; exact hP⟩, hS.F ht9⟩) hS.2.2 dX1_holds_48
    · refine lv_iload_n hx hb dX1_holds_17 rfl (lv_at hl 3 rfl) ?_
      refine lv_iconst (v := nI 1) hx hb dX1_holds_18 (by decide) ?_
      refine rd_calli (va_runS (As := [.int x2, .int (nI 1)]) (rest := [.ref k0]) ⟨hx, hb, hml, hown, hts⟩ (c_X1_outside l x2 1 ) (va_cwS 2 hts gX1_holds_X1_outside rfl rfl rfl (by decide +kernel) ⟨Nat.le_of_ble_eq_true rfl, Nat.le_of_ble_eq_true rfl⟩) ⟨fun a U g mk q => q, fun U hU hW => ⟨rfl, trivial⟩⟩ rfl rfl hl.1 rfl (lv_room (Nat.le_of_ble_eq_true rfl)) dX1_holds_19 ⟨Nat.le_of_ble_eq_true rfl, Nat.le_of_ble_eq_true rfl⟩) (fun r_7 hr_7 => ?_)
      subst hr_7
      refine kb_ne (tgt := 34) hx hb dX1_holds_22 (by decide) (fun c_8 => ?_) (fun c_8 => ?_)
      · refine lv_iconst (v := nI 1) hx hb dX1_holds_34 (by decide) ?_
        refine lv_goto (tgt := 39) hx hb dX1_holds_35 (by decide) ?_
        refine lv_iconst (v := nI 0) hx hb dX1_holds_39 (by decide) ?_
        refine lv_iconst (v := nI 0) hx hb dX1_holds_40 (by decide) ?_
        have hFc := va_free (wc := WM k0 kv ko ks km kt kp kb cZ cD cI th mv io sz mk se pv pd op mw) hD hS hA [0, 1, 2, 3, 4, 5, 6, 7] rfl
        refine wr_calli (va_runV (As := [.int (b2i true), .int (b2i false), .int (b2i false)]) (rest := []) ⟨hx, hb, hml, hown, hts⟩ (c_X1_throwing l D k0 kv ko ks km kt kp kb cZ cD cI th mv io sz mk se pv pd op mw hsz s.heap.size true false false ) (cwV 3 hts gX1_holds_X1_throwing rfl rfl rfl (by decide +kernel) ⟨Nat.le_of_ble_eq_true rfl, Nat.le_of_ble_eq_true rfl⟩) ⟨fun a U g mk q => ⟨q.1, q.2.1, q.2.2.1, va_K.moved (u := U) (U := U.calling g mk a) (Vm.Alike.refl U.vm) q.2.2.2.1, q.2.2.2.2⟩, va_recv hK hP (ci := 2) (q0 := 0) rfl rfl, fun U hU hW => ⟨rfl, by rw [hU], by rw [hU]; exact hP, va_K.moved hW.alike hK, hD.weaken (fun _ _ _ _ => trivial)⟩⟩ rfl rfl hl.1 rfl (lv_room (Nat.le_of_ble_eq_true rfl)) dX1_holds_41 ⟨Nat.le_of_ble_eq_true rfl, Nat.le_of_ble_eq_true rfl⟩) hS hFc (fun r_9 H locs hr_9 hP _ _ hS => ?_)
        subst hr_9
        refine kt_i (y := b2i true) rfl ?_
        have hD : va_D A (WM k0 kv ko ks km kt kp kb cZ cD cI (thr true false false) mv io sz mk se pv pd op mw) := va_D_same (ws := WM k0 kv ko ks km kt kp kb cZ cD cI th mv io sz mk se pv pd op mw) rfl hD
        have hP : va_P D vwCl (WM k0 kv ko ks km kt kp kb cZ cD cI (thr true false false) mv io sz mk se pv pd op mw) H := hP
        refine kb_eq (tgt := 49) hx hb dX1_holds_44 (by decide) (fun h => absurd h (by decide)) (fun _ => ?_)
        refine lv_iconst (v := nI 0) hx hb dX1_holds_47 (by decide) ?_
        refine kt_i (y := b2i false) rfl ?_
        refine W.widen (k := 0) (n := 0) (Nat.le_of_ble_eq_true rfl) (Nat.le_of_ble_eq_true rfl) ?_
        exact W.zret (v := b2i false) hx hb hr (b2i_nar _) (fun t9 ht9 hW9 => ⟨⟨_, rfl, rfl, by rw [ht9]; exact hP⟩, hS.F ht9⟩) hS.2.2 dX1_holds_48
      · refine lv_iload hx hb dX1_holds_25 (lv_at hl 4 rfl) ?_
        refine lv_iconst (v := nI 5) hx hb dX1_holds_27 (by decide) ?_
        refine rd_calli (va_runS (As := [.int x3, .int (nI 5)]) (rest := [.ref k0]) ⟨hx, hb, hml, hown, hts⟩ (c_X1_outside l x3 5 ) (va_cwS 2 hts gX1_holds_X1_outside rfl rfl rfl (by decide +kernel) ⟨Nat.le_of_ble_eq_true rfl, Nat.le_of_ble_eq_true rfl⟩) ⟨fun a U g mk q => q, fun U hU hW => ⟨rfl, trivial⟩⟩ rfl rfl hl.1 rfl (lv_room (Nat.le_of_ble_eq_true rfl)) dX1_holds_28 ⟨Nat.le_of_ble_eq_true rfl, Nat.le_of_ble_eq_true rfl⟩) (fun r_10 hr_10 => ?_)
        subst hr_10
        refine kb_eq (tgt := 38) hx hb dX1_holds_31 (by decide) (fun c_11 => ?_) (fun c_11 => ?_)
        · refine lv_iconst (v := nI 0) hx hb dX1_holds_38 (by decide) ?_
          exact absurd (show InN 6 x0 ∧ InN 6 x1 ∧ InN 2 x2 ∧ InN 6 x3 from ⟨outs_in (by decide) c_2, outs_in (by decide) c_5, outs_in (by decide) c_8, outs_in (by decide) c_11⟩) hbad
        · refine lv_iconst (v := nI 1) hx hb dX1_holds_34 (by decide) ?_
          refine lv_goto (tgt := 39) hx hb dX1_holds_35 (by decide) ?_
          refine lv_iconst (v := nI 0) hx hb dX1_holds_39 (by decide) ?_
          refine lv_iconst (v := nI 0) hx hb dX1_holds_40 (by decide) ?_
          have hFc := va_free (wc := WM k0 kv ko ks km kt kp kb cZ cD cI th mv io sz mk se pv pd op mw) hD hS hA [0, 1, 2, 3, 4, 5, 6, 7] rfl
          refine wr_calli (va_runV (As := [.int (b2i true), .int (b2i false), .int (b2i false)]) (rest := []) ⟨hx, hb, hml, hown, hts⟩ (c_X1_throwing l D k0 kv ko ks km kt kp kb cZ cD cI th mv io sz mk se pv pd op mw hsz s.heap.size true false false ) (cwV 3 hts gX1_holds_X1_throwing rfl rfl rfl (by decide +kernel) ⟨Nat.le_of_ble_eq_true rfl, Nat.le_of_ble_eq_true rfl⟩) ⟨fun a U g mk q => ⟨q.1, q.2.1, q.2.2.1, va_K.moved (u := U) (U := U.calling g mk a) (Vm.Alike.refl U.vm) q.2.2.2.1, q.2.2.2.2⟩, va_recv hK hP (ci := 2) (q0 := 0) rfl rfl, fun U hU hW => ⟨rfl, by rw [hU], by rw [hU]; exact hP, va_K.moved hW.alike hK, hD.weaken (fun _ _ _ _ => trivial)⟩⟩ rfl rfl hl.1 rfl (lv_room (Nat.le_of_ble_eq_true rfl)) dX1_holds_41 ⟨Nat.le_of_ble_eq_true rfl, Nat.le_of_ble_eq_true rfl⟩) hS hFc (fun r_12 H locs hr_12 hP _ _ hS => ?_)
          subst hr_12
          refine kt_i (y := b2i true) rfl ?_
          have hD : va_D A (WM k0 kv ko ks km kt kp kb cZ cD cI (thr true false false) mv io sz mk se pv pd op mw) := va_D_same (ws := WM k0 kv ko ks km kt kp kb cZ cD cI th mv io sz mk se pv pd op mw) rfl hD
          have hP : va_P D vwCl (WM k0 kv ko ks km kt kp kb cZ cD cI (thr true false false) mv io sz mk se pv pd op mw) H := hP
          refine kb_eq (tgt := 49) hx hb dX1_holds_44 (by decide) (fun h => absurd h (by decide)) (fun _ => ?_)
          refine lv_iconst (v := nI 0) hx hb dX1_holds_47 (by decide) ?_
          refine kt_i (y := b2i false) rfl ?_
          refine W.widen (k := 0) (n := 0) (Nat.le_of_ble_eq_true rfl) (Nat.le_of_ble_eq_true rfl) ?_
          exact W.zret (v := b2i false) hx hb hr (b2i_nar _) (fun t9 ht9 hW9 => ⟨⟨_, rfl, rfl, by rw [ht9]; exact hP⟩, hS.F ht9⟩) hS.2.2 dX1_holds_48
set_option maxHeartbeats 4000000 in
set_option maxRecDepth 100000 in
theorem c_X1_pick_bad (l : Launch) (D : va_G) (k0 kv ko ks km kt kp kb : Nat) (cZ cD cI : ClassId) (th : Nat) (mv : Nat → UInt64) (io : Nat → Bool) (sz : Nat → Nat) (mk : Nat → UInt64) (se : Nat → Bool) (pv : Nat → UInt64) (pd : Nat → Bool) (op : Bool) (mw : Int32) (hsz : ∀ j, sz j ≤ 12) (zz : Nat) (x0 : Int32) (x1 : Int32) (x2 : Int32) (x3 : Int32) (hbad : ¬ (InN 6 x0 ∧ InN 6 x1 ∧ InN 2 x2 ∧ InN 6 x3)) : Met l yX1_pick wsX1_pick ({ frames := 1, cells := 0, slots := 0, locals := 23 }) (va_Pc [.ref k0, .int x0, .int x1, .int x2, .int x3] (fun U => U.heap.size = zz ∧ va_P D vwCl (WM k0 kv ko ks km kt kp kb cZ cD cI th mv io sz mk se pv pd op mw) U.heap ∧ va_K D vwCl (TY cZ cD cI) U ∧ va_D (fun _ => True) (WM k0 kv ko ks km kt kp kb cZ cD cI th mv io sz mk se pv pd op mw))) (wr_Qi (fun r => r = nI 0) (fun H => va_P D vwCl (WM k0 kv ko ks km kt kp kb cZ cD cI (thr true false false) mv io sz mk se pv pd op mw) H) (va_A (WM k0 kv ko ks km kt kp kb cZ cD cI th mv io sz mk se pv pd op mw) zz))  0 0 (va_A (WM k0 kv ko ks km kt kp kb cZ cD cI th mv io sz mk se pv pd op mw) zz) := by
  refine Met.ofW (cc := cX1_pick) (maxL := 7) (ret := some .int) (by decide) rfl ?_
  intro p e s m args below meth c s₁ B hml hv
  obtain ⟨rfl, hsz_, hP, hK, hD0⟩ := hv
  have hx := B.exec
  have hb := B.bytes
  have hr := B.returns
  have hts := atoms_spec (ws := wsX1_pick) B.pre
  have hown : s.vm.findClass RX1 = some m.cls := findClass_of_methodNamed B.named
  have hlocks := B.notSynchronized
  subst hsz_
  have hD := hD0.self (sz := s.heap.size)
  generalize hAe : va_A (WM k0 kv ko ks km kt kp kb cZ cD cI th mv io sz mk se pv pd op mw) s.heap.size = A at hD ⊢
  have hA : ∀ q : Nat, s.heap.size ≤ q → A q := fun q h => by rw [← hAe]; exact Or.inr h
  have hS : va_S A s.heap s.heap [] := va_S.rf
  have hl := lv_entry ([.ref k0, .int x0, .int x1, .int x2, .int x3]) (n := 7) (Nat.le_of_ble_eq_true rfl)
  rw [lg_entry_eq]
  generalize (lg_sl ([.ref k0, .int x0, .int x1, .int x2, .int x3]) ++ List.replicate (7 - (lg_sl ([.ref k0, .int x0, .int x1, .int x2, .int x3])).length) Slot.unset).toArray = ls at hl ⊢
  have hl : lv_has ls 7 [(0, .ref k0), (1, .int x0), (2, .int x1), (3, .int x2), (4, .int x3)] := hl
  refine lv_aload_n hx hb dX1_pick_0 rfl (lv_at hl 0 rfl) ?_
  refine lv_iload_n hx hb dX1_pick_1 rfl (lv_at hl 1 rfl) ?_
  refine lv_iconst (v := nI 5) hx hb dX1_pick_2 (by decide) ?_
  refine rd_calli (va_runS (As := [.int x0, .int (nI 5)]) (rest := [.ref k0]) ⟨hx, hb, hml, hown, hts⟩ (c_X1_outside l x0 5 ) (va_cwS 2 hts gX1_pick_X1_outside rfl rfl rfl (by decide +kernel) ⟨Nat.le_of_ble_eq_true rfl, Nat.le_of_ble_eq_true rfl⟩) ⟨fun a U g mk q => q, fun U hU hW => ⟨rfl, trivial⟩⟩ rfl rfl hl.1 rfl (lv_room (Nat.le_of_ble_eq_true rfl)) dX1_pick_3 ⟨Nat.le_of_ble_eq_true rfl, Nat.le_of_ble_eq_true rfl⟩) (fun r_1 hr_1 => ?_)
  subst hr_1
  refine kb_ne (tgt := 34) hx hb dX1_pick_6 (by decide) (fun c_2 => ?_) (fun c_2 => ?_)
  · refine lv_iconst (v := nI 1) hx hb dX1_pick_34 (by decide) ?_
    refine lv_goto (tgt := 39) hx hb dX1_pick_35 (by decide) ?_
    refine lv_iconst (v := nI 0) hx hb dX1_pick_39 (by decide) ?_
    refine lv_iconst (v := nI 0) hx hb dX1_pick_40 (by decide) ?_
    have hFc := va_free (wc := WM k0 kv ko ks km kt kp kb cZ cD cI th mv io sz mk se pv pd op mw) hD hS hA [0, 1, 2, 3, 4, 5, 6, 7] rfl
    refine wr_calli (va_runV (As := [.int (b2i true), .int (b2i false), .int (b2i false)]) (rest := []) ⟨hx, hb, hml, hown, hts⟩ (c_X1_throwing l D k0 kv ko ks km kt kp kb cZ cD cI th mv io sz mk se pv pd op mw hsz s.heap.size true false false ) (cwV 3 hts gX1_pick_X1_throwing rfl rfl rfl (by decide +kernel) ⟨Nat.le_of_ble_eq_true rfl, Nat.le_of_ble_eq_true rfl⟩) ⟨fun a U g mk q => ⟨q.1, q.2.1, q.2.2.1, va_K.moved (u := U) (U := U.calling g mk a) (Vm.Alike.refl U.vm) q.2.2.2.1, q.2.2.2.2⟩, va_recv hK hP (ci := 2) (q0 := 0) rfl rfl, fun U hU hW => ⟨rfl, by rw [hU], by rw [hU]; exact hP, va_K.moved hW.alike hK, hD.weaken (fun _ _ _ _ => trivial)⟩⟩ rfl rfl hl.1 rfl (lv_room (Nat.le_of_ble_eq_true rfl)) dX1_pick_41 ⟨Nat.le_of_ble_eq_true rfl, Nat.le_of_ble_eq_true rfl⟩) hS hFc (fun r_3 H locs hr_3 hP _ _ hS => ?_)
    subst hr_3
    refine kt_i (y := b2i true) rfl ?_
    have hD : va_D A (WM k0 kv ko ks km kt kp kb cZ cD cI (thr true false false) mv io sz mk se pv pd op mw) := va_D_same (ws := WM k0 kv ko ks km kt kp kb cZ cD cI th mv io sz mk se pv pd op mw) rfl hD
    have hP : va_P D vwCl (WM k0 kv ko ks km kt kp kb cZ cD cI (thr true false false) mv io sz mk se pv pd op mw) H := hP
    refine kb_eq (tgt := 49) hx hb dX1_pick_44 (by decide) (fun h => absurd h (by decide)) (fun _ => ?_)
    refine lv_iconst (v := nI 0) hx hb dX1_pick_47 (by decide) ?_
    refine W.widen (k := 0) (n := 0) (Nat.le_of_ble_eq_true rfl) (Nat.le_of_ble_eq_true rfl) ?_
    exact W.iret (v := nI 0) hx hb hr (fun t9 ht9 hW9 => ⟨⟨_, rfl, rfl, by rw [ht9]; exact hP⟩, hS.F ht9⟩) hS.2.2 dX1_pick_48
  · refine lv_iload_n hx hb dX1_pick_9 rfl (lv_at hl 2 rfl) ?_
    refine lv_iconst (v := nI 5) hx hb dX1_pick_10 (by decide) ?_
    refine rd_calli (va_runS (As := [.int x1, .int (nI 5)]) (rest := [.ref k0]) ⟨hx, hb, hml, hown, hts⟩ (c_X1_outside l x1 5 ) (va_cwS 2 hts gX1_pick_X1_outside rfl rfl rfl (by decide +kernel) ⟨Nat.le_of_ble_eq_true rfl, Nat.le_of_ble_eq_true rfl⟩) ⟨fun a U g mk q => q, fun U hU hW => ⟨rfl, trivial⟩⟩ rfl rfl hl.1 rfl (lv_room (Nat.le_of_ble_eq_true rfl)) dX1_pick_11 ⟨Nat.le_of_ble_eq_true rfl, Nat.le_of_ble_eq_true rfl⟩) (fun r_4 hr_4 => ?_)
    subst hr_4
    refine kb_ne (tgt := 34) hx hb dX1_pick_14 (by decide) (fun c_5 => ?_) (fun c_5 => ?_)
    · refine lv_iconst (v := nI 1) hx hb dX1_pick_34 (by decide) ?_
      refine lv_goto (tgt := 39) hx hb dX1_pick_35 (by decide) ?_
      refine lv_iconst (v := nI 0) hx hb dX1_pick_39 (by decide) ?_
      refine lv_iconst (v := nI 0) hx hb dX1_pick_40 (by decide) ?_
      have hFc := va_free (wc := WM k0 kv ko ks km kt kp kb cZ cD cI th mv io sz mk se pv pd op mw) hD hS hA [0, 1, 2, 3, 4, 5, 6, 7] rfl
      refine wr_calli (va_runV (As := [.int (b2i true), .int (b2i false), .int (b2i false)]) (rest := []) ⟨hx, hb, hml, hown, hts⟩ (c_X1_throwing l D k0 kv ko ks km kt kp kb cZ cD cI th mv io sz mk se pv pd op mw hsz s.heap.size true false false ) (cwV 3 hts gX1_pick_X1_throwing rfl rfl rfl (by decide +kernel) ⟨Nat.le_of_ble_eq_true rfl, Nat.le_of_ble_eq_true rfl⟩) ⟨fun a U g mk q => ⟨q.1, q.2.1, q.2.2.1, va_K.moved (u := U) (U := U.calling g mk a) (Vm.Alike.refl U.vm) q.2.2.2.1, q.2.2.2.2⟩, va_recv hK hP (ci := 2) (q0 := 0) rfl rfl, fun U hU hW => ⟨rfl, by rw [hU], by rw [hU]; exact hP, va_K.moved hW.alike hK, hD.weaken (fun _ _ _ _ => trivial)⟩⟩ rfl rfl hl.1 rfl (lv_room (Nat.le_of_ble_eq_true rfl)) dX1_pick_41 ⟨Nat.le_of_ble_eq_true rfl, Nat.le_of_ble_eq_true rfl⟩) hS hFc (fun r_6 H locs hr_6 hP _ _ hS => ?_)
      subst hr_6
      refine kt_i (y := b2i true) rfl ?_
      have hD : va_D A (WM k0 kv ko ks km kt kp kb cZ cD cI (thr true false false) mv io sz mk se pv pd op mw) := va_D_same (ws := WM k0 kv ko ks km kt kp kb cZ cD cI th mv io sz mk se pv pd op mw) rfl hD
      have hP : va_P D vwCl (WM k0 kv ko ks km kt kp kb cZ cD cI (thr true false false) mv io sz mk se pv pd op mw) H := hP
      refine kb_eq (tgt := 49) hx hb dX1_pick_44 (by decide) (fun h => absurd h (by decide)) (fun _ => ?_)
      refine lv_iconst (v := nI 0) hx hb dX1_pick_47 (by decide) ?_
      refine W.widen (k := 0) (n := 0) (Nat.le_of_ble_eq_true rfl) (Nat.le_of_ble_eq_true rfl) ?_
      exact W.iret (v := nI 0) hx hb hr (fun t9 ht9 hW9 => ⟨⟨_, rfl, rfl, by rw [ht9]; exact hP⟩, hS.F ht9⟩) hS.2.2 dX1_pick_48
    · refine lv_iload_n hx hb dX1_pick_17 rfl (lv_at hl 3 rfl) ?_
      refine lv_iconst (v := nI 1) hx hb dX1_pick_18 (by decide) ?_
      refine rd_calli (va_runS (As := [.int x2, .int (nI 1)]) (rest := [.ref k0]) ⟨hx, hb, hml, hown, hts⟩ (c_X1_outside l x2 1 ) (va_cwS 2 hts gX1_pick_X1_outside rfl rfl rfl (by decide +kernel) ⟨Nat.le_of_ble_eq_true rfl, Nat.le_of_ble_eq_true rfl⟩) ⟨fun a U g mk q => q, fun U hU hW => ⟨rfl, trivial⟩⟩ rfl rfl hl.1 rfl (lv_room (Nat.le_of_ble_eq_true rfl)) dX1_pick_19 ⟨Nat.le_of_ble_eq_true rfl, Nat.le_of_ble_eq_true rfl⟩) (fun r_7 hr_7 => ?_)
      subst hr_7
      refine kb_ne (tgt := 34) hx hb dX1_pick_22 (by decide) (fun c_8 => ?_) (fun c_8 => ?_)
      · refine lv_iconst (v := nI 1) hx hb dX1_pick_34 (by decide) ?_
        refine lv_goto (tgt := 39) hx hb dX1_pick_35 (by decide) ?_
        refine lv_iconst (v := nI 0) hx hb dX1_pick_39 (by decide) ?_
        refine lv_iconst (v := nI 0) hx hb dX1_pick_40 (by decide) ?_
        have hFc := va_free (wc := WM k0 kv ko ks km kt kp kb cZ cD cI th mv io sz mk se pv pd op mw) hD hS hA [0, 1, 2, 3, 4, 5, 6, 7] rfl
        refine wr_calli (va_runV (As := [.int (b2i true), .int (b2i false), .int (b2i false)]) (rest := []) ⟨hx, hb, hml, hown, hts⟩ (c_X1_throwing l D k0 kv ko ks km kt kp kb cZ cD cI th mv io sz mk se pv pd op mw hsz s.heap.size true false false ) (cwV 3 hts gX1_pick_X1_throwing rfl rfl rfl (by decide +kernel) ⟨Nat.le_of_ble_eq_true rfl, Nat.le_of_ble_eq_true rfl⟩) ⟨fun a U g mk q => ⟨q.1, q.2.1, q.2.2.1, va_K.moved (u := U) (U := U.calling g mk a) (Vm.Alike.refl U.vm) q.2.2.2.1, q.2.2.2.2⟩, va_recv hK hP (ci := 2) (q0 := 0) rfl rfl, fun U hU hW => ⟨rfl, by rw [hU], by rw [hU]; exact hP, va_K.moved hW.alike hK, hD.weaken (fun _ _ _ _ => trivial)⟩⟩ rfl rfl hl.1 rfl (lv_room (Nat.le_of_ble_eq_true rfl)) dX1_pick_41 ⟨Nat.le_of_ble_eq_true rfl, Nat.le_of_ble_eq_true rfl⟩) hS hFc (fun r_9 H locs hr_9 hP _ _ hS => ?_)
        subst hr_9
        refine kt_i (y := b2i true) rfl ?_
        have hD : va_D A (WM k0 kv ko ks km kt kp kb cZ cD cI (thr true false false) mv io sz mk se pv pd op mw) := va_D_same (ws := WM k0 kv ko ks km kt kp kb cZ cD cI th mv io sz mk se pv pd op mw) rfl hD
        have hP : va_P D vwCl (WM k0 kv ko ks km kt kp kb cZ cD cI (thr true false false) mv io sz mk se pv pd op mw) H := hP
        refine kb_eq (tgt := 49) hx hb dX1_pick_44 (by decide) (fun h => absurd h (by decide)) (fun _ => ?_)
        refine lv_iconst (v := nI 0) hx hb dX1_pick_47 (by decide) ?_
        refine W.widen (k := 0) (n := 0) (Nat.le_of_ble_eq_true rfl) (Nat.le_of_ble_eq_true rfl) ?_
        exact W.iret (v := nI 0) hx hb hr (fun t9 ht9 hW9 => ⟨⟨_, rfl, rfl, by rw [ht9]; exact hP⟩, hS.F ht9⟩) hS.2.2 dX1_pick_48
      · refine lv_iload hx hb dX1_pick_25 (lv_at hl 4 rfl) ?_
        refine lv_iconst (v := nI 5) hx hb dX1_pick_27 (by decide) ?_
        refine rd_calli (va_runS (As := [.int x3, .int (nI 5)]) (rest := [.ref k0]) ⟨hx, hb, hml, hown, hts⟩ (c_X1_outside l x3 5 ) (va_cwS 2 hts gX1_pick_X1_outside rfl rfl rfl (by decide +kernel) ⟨Nat.le_of_ble_eq_true rfl, Nat.le_of_ble_eq_true rfl⟩) ⟨fun a U g mk q => q, fun U hU hW => ⟨rfl, trivial⟩⟩ rfl rfl hl.1 rfl (lv_room (Nat.le_of_ble_eq_true rfl)) dX1_pick_28 ⟨Nat.le_of_ble_eq_true rfl, Nat.le_of_ble_eq_true rfl⟩) (fun r_10 hr_10 => ?_)
        subst hr_10
        refine kb_eq (tgt := 38) hx hb dX1_pick_31 (by decide) (fun c_11 => ?_) (fun c_11 => ?_)
        · refine lv_iconst (v := nI 0) hx hb dX1_pick_38 (by decide) ?_
          exact absurd (show InN 6 x0 ∧ InN 6 x1 ∧ InN 2 x2 ∧ InN 6 x3 from ⟨outs_in (by decide) c_2, outs_in (by decide) c_5, outs_in (by decide) c_8, outs_in (by decide) c_11⟩) hbad
        · refine lv_iconst (v := nI 1) hx hb dX1_pick_34 (by decide) ?_
          refine lv_goto (tgt := 39) hx hb dX1_pick_35 (by decide) ?_
          refine lv_iconst (v := nI 0) hx hb dX1_pick_39 (by decide) ?_
          refine lv_iconst (v := nI 0) hx hb dX1_pick_40 (by decide) ?_
          have hFc := va_free (wc := WM k0 kv ko ks km kt kp kb cZ cD cI th mv io sz mk se pv pd op mw) hD hS hA [0, 1, 2, 3, 4, 5, 6, 7] rfl
          refine wr_calli (va_runV (As := [.int (b2i true), .int (b2i false), .int (b2i false)]) (rest := []) ⟨hx, hb, hml, hown, hts⟩ (c_X1_throwing l D k0 kv ko ks km kt kp kb cZ cD cI th mv io sz mk se pv pd op mw hsz s.heap.size true false false ) (cwV 3 hts gX1_pick_X1_throwing rfl rfl rfl (by decide +kernel) ⟨Nat.le_of_ble_eq_true rfl, Nat.le_of_ble_eq_true rfl⟩) ⟨fun a U g mk q => ⟨q.1, q.2.1, q.2.2.1, va_K.moved (u := U) (U := U.calling g mk a) (Vm.Alike.refl U.vm) q.2.2.2.1, q.2.2.2.2⟩, va_recv hK hP (ci := 2) (q0 := 0) rfl rfl, fun U hU hW => ⟨rfl, by rw [hU], by rw [hU]; exact hP, va_K.moved hW.alike hK, hD.weaken (fun _ _ _ _ => trivial)⟩⟩ rfl rfl hl.1 rfl (lv_room (Nat.le_of_ble_eq_true rfl)) dX1_pick_41 ⟨Nat.le_of_ble_eq_true rfl, Nat.le_of_ble_eq_true rfl⟩) hS hFc (fun r_12 H locs hr_12 hP _ _ hS => ?_)
          subst hr_12
          refine kt_i (y := b2i true) rfl ?_
          have hD : va_D A (WM k0 kv ko ks km kt kp kb cZ cD cI (thr true false false) mv io sz mk se pv pd op mw) := va_D_same (ws := WM k0 kv ko ks km kt kp kb cZ cD cI th mv io sz mk se pv pd op mw) rfl hD
          have hP : va_P D vwCl (WM k0 kv ko ks km kt kp kb cZ cD cI (thr true false false) mv io sz mk se pv pd op mw) H := hP
          refine kb_eq (tgt := 49) hx hb dX1_pick_44 (by decide) (fun h => absurd h (by decide)) (fun _ => ?_)
          refine lv_iconst (v := nI 0) hx hb dX1_pick_47 (by decide) ?_
          refine W.widen (k := 0) (n := 0) (Nat.le_of_ble_eq_true rfl) (Nat.le_of_ble_eq_true rfl) ?_
          exact W.iret (v := nI 0) hx hb hr (fun t9 ht9 hW9 => ⟨⟨_, rfl, rfl, by rw [ht9]; exact hP⟩, hS.F ht9⟩) hS.2.2 dX1_pick_48
set_option maxHeartbeats 4000000 in
set_option maxRecDepth 100000 in
theorem c_X1_stand_bad (l : Launch) (D : va_G) (k0 kv ko ks km kt kp kb : Nat) (cZ cD cI : ClassId) (th : Nat) (mv : Nat → UInt64) (io : Nat → Bool) (sz : Nat → Nat) (mk : Nat → UInt64) (se : Nat → Bool) (pv : Nat → UInt64) (pd : Nat → Bool) (op : Bool) (mw : Int32) (hsz : ∀ j, sz j ≤ 12) (zz : Nat) (x0 : Int32) (hbad : ¬ (InN 6 x0)) : Met l yX1_stand wsX1_stand ({ frames := 1, cells := 0, slots := 0, locals := 23 }) (va_Pc [.ref k0, .int x0] (fun U => U.heap.size = zz ∧ va_P D vwCl (WM k0 kv ko ks km kt kp kb cZ cD cI th mv io sz mk se pv pd op mw) U.heap ∧ va_K D vwCl (TY cZ cD cI) U ∧ va_D (fun _ => True) (WM k0 kv ko ks km kt kp kb cZ cD cI th mv io sz mk se pv pd op mw))) (wr_Qi (fun r => r = nI 0) (fun H => va_P D vwCl (WM k0 kv ko ks km kt kp kb cZ cD cI (thr true false false) mv io sz mk se pv pd op mw) H) (va_A (WM k0 kv ko ks km kt kp kb cZ cD cI th mv io sz mk se pv pd op mw) zz))  0 0 (va_A (WM k0 kv ko ks km kt kp kb cZ cD cI th mv io sz mk se pv pd op mw) zz) := by
  refine Met.ofW (cc := cX1_stand) (maxL := 4) (ret := some .int) (by decide) rfl ?_
  intro p e s m args below meth c s₁ B hml hv
  obtain ⟨rfl, hsz_, hP, hK, hD0⟩ := hv
  have hx := B.exec
  have hb := B.bytes
  have hr := B.returns
  have hts := atoms_spec (ws := wsX1_stand) B.pre
  have hown : s.vm.findClass RX1 = some m.cls := findClass_of_methodNamed B.named
  have hlocks := B.notSynchronized
  subst hsz_
  have hD := hD0.self (sz := s.heap.size)
  generalize hAe : va_A (WM k0 kv ko ks km kt kp kb cZ cD cI th mv io sz mk se pv pd op mw) s.heap.size = A at hD ⊢
  have hA : ∀ q : Nat, s.heap.size ≤ q → A q := fun q h => by rw [← hAe]; exact Or.inr h
  have hS : va_S A s.heap s.heap [] := va_S.rf
  have hl := lv_entry ([.ref k0, .int x0]) (n := 4) (Nat.le_of_ble_eq_true rfl)
  rw [lg_entry_eq]
  generalize (lg_sl ([.ref k0, .int x0]) ++ List.replicate (4 - (lg_sl ([.ref k0, .int x0])).length) Slot.unset).toArray = ls at hl ⊢
  have hl : lv_has ls 4 [(0, .ref k0), (1, .int x0)] := hl
  refine lv_aload_n hx hb dX1_stand_0 rfl (lv_at hl 0 rfl) ?_
  refine lv_iload_n hx hb dX1_stand_1 rfl (lv_at hl 1 rfl) ?_
  refine lv_iconst (v := nI 5) hx hb dX1_stand_2 (by decide) ?_
  refine rd_calli (va_runS (As := [.int x0, .int (nI 5)]) (rest := [.ref k0]) ⟨hx, hb, hml, hown, hts⟩ (c_X1_outside l x0 5 ) (va_cwS 2 hts gX1_stand_X1_outside rfl rfl rfl (by decide +kernel) ⟨Nat.le_of_ble_eq_true rfl, Nat.le_of_ble_eq_true rfl⟩) ⟨fun a U g mk q => q, fun U hU hW => ⟨rfl, trivial⟩⟩ rfl rfl hl.1 rfl (lv_room (Nat.le_of_ble_eq_true rfl)) dX1_stand_3 ⟨Nat.le_of_ble_eq_true rfl, Nat.le_of_ble_eq_true rfl⟩) (fun r_1 hr_1 => ?_)
  subst hr_1
  refine kt_i (y := b2i true) (congrArg b2i (outs_out (by decide) hbad)) ?_
  refine lv_iconst (v := nI 0) hx hb dX1_stand_6 (by decide) ?_
  refine lv_iconst (v := nI 0) hx hb dX1_stand_7 (by decide) ?_
  have hFc := va_free (wc := WM k0 kv ko ks km kt kp kb cZ cD cI th mv io sz mk se pv pd op mw) hD hS hA [0, 1, 2, 3, 4, 5, 6, 7] rfl
  refine wr_calli (va_runV (As := [.int (b2i true), .int (b2i false), .int (b2i false)]) (rest := []) ⟨hx, hb, hml, hown, hts⟩ (c_X1_throwing l D k0 kv ko ks km kt kp kb cZ cD cI th mv io sz mk se pv pd op mw hsz s.heap.size true false false ) (cwV 3 hts gX1_stand_X1_throwing rfl rfl rfl (by decide +kernel) ⟨Nat.le_of_ble_eq_true rfl, Nat.le_of_ble_eq_true rfl⟩) ⟨fun a U g mk q => ⟨q.1, q.2.1, q.2.2.1, va_K.moved (u := U) (U := U.calling g mk a) (Vm.Alike.refl U.vm) q.2.2.2.1, q.2.2.2.2⟩, va_recv hK hP (ci := 2) (q0 := 0) rfl rfl, fun U hU hW => ⟨rfl, by rw [hU], by rw [hU]; exact hP, va_K.moved hW.alike hK, hD.weaken (fun _ _ _ _ => trivial)⟩⟩ rfl rfl hl.1 rfl (lv_room (Nat.le_of_ble_eq_true rfl)) dX1_stand_8 ⟨Nat.le_of_ble_eq_true rfl, Nat.le_of_ble_eq_true rfl⟩) hS hFc (fun r_2 H locs hr_2 hP _ _ hS => ?_)
  subst hr_2
  refine kt_i (y := b2i true) rfl ?_
  have hD : va_D A (WM k0 kv ko ks km kt kp kb cZ cD cI (thr true false false) mv io sz mk se pv pd op mw) := va_D_same (ws := WM k0 kv ko ks km kt kp kb cZ cD cI th mv io sz mk se pv pd op mw) rfl hD
  have hP : va_P D vwCl (WM k0 kv ko ks km kt kp kb cZ cD cI (thr true false false) mv io sz mk se pv pd op mw) H := hP
  refine kb_eq (tgt := 16) hx hb dX1_stand_11 (by decide) (fun h => absurd h (by decide)) (fun _ => ?_)
  refine lv_iconst (v := nI 0) hx hb dX1_stand_14 (by decide) ?_
  refine W.widen (k := 0) (n := 0) (Nat.le_of_ble_eq_true rfl) (Nat.le_of_ble_eq_true rfl) ?_
  exact W.iret (v := nI 0) hx hb hr (fun t9 ht9 hW9 => ⟨⟨_, rfl, rfl, by rw [ht9]; exact hP⟩, hS.F ht9⟩) hS.2.2 dX1_stand_15
set_option maxHeartbeats 4000000 in
set_option maxRecDepth 100000 in
theorem c_X1_order_bad (l : Launch) (D : va_G) (k0 kv ko ks km kt kp kb : Nat) (cZ cD cI : ClassId) (th : Nat) (mv : Nat → UInt64) (io : Nat → Bool) (sz : Nat → Nat) (mk : Nat → UInt64) (se : Nat → Bool) (pv : Nat → UInt64) (pd : Nat → Bool) (op : Bool) (mw : Int32) (hsz : ∀ j, sz j ≤ 12) (zz : Nat) (x0 : Int32) (hbad : ¬ (InN 6 x0)) : Met l yX1_order wsX1_order ({ frames := 1, cells := 0, slots := 0, locals := 23 }) (va_Pc [.ref k0, .int x0] (fun U => U.heap.size = zz ∧ va_P D vwCl (WM k0 kv ko ks km kt kp kb cZ cD cI th mv io sz mk se pv pd op mw) U.heap ∧ va_K D vwCl (TY cZ cD cI) U ∧ va_D (fun _ => True) (WM k0 kv ko ks km kt kp kb cZ cD cI th mv io sz mk se pv pd op mw))) (wr_Qi (fun r => r = nI 0) (fun H => va_P D vwCl (WM k0 kv ko ks km kt kp kb cZ cD cI (thr true false false) mv io sz mk se pv pd op mw) H) (va_A (WM k0 kv ko ks km kt kp kb cZ cD cI th mv io sz mk se pv pd op mw) zz))  0 0 (va_A (WM k0 kv ko ks km kt kp kb cZ cD cI th mv io sz mk se pv pd op mw) zz) := by
  refine Met.ofW (cc := cX1_order) (maxL := 6) (ret := some .int) (by decide) rfl ?_
  intro p e s m args below meth c s₁ B hml hv
  obtain ⟨rfl, hsz_, hP, hK, hD0⟩ := hv
  have hx := B.exec
  have hb := B.bytes
  have hr := B.returns
  have hts := atoms_spec (ws := wsX1_order) B.pre
  have hown : s.vm.findClass RX1 = some m.cls := findClass_of_methodNamed B.named
  have hlocks := B.notSynchronized
  subst hsz_
  have hD := hD0.self (sz := s.heap.size)
  generalize hAe : va_A (WM k0 kv ko ks km kt kp kb cZ cD cI th mv io sz mk se pv pd op mw) s.heap.size = A at hD ⊢
  have hA : ∀ q : Nat, s.heap.size ≤ q → A q := fun q h => by rw [← hAe]; exact Or.inr h
  have hS : va_S A s.heap s.heap [] := va_S.rf
  have hl := lv_entry ([.ref k0, .int x0]) (n := 6) (Nat.le_of_ble_eq_true rfl)
  rw [lg_entry_eq]
  generalize (lg_sl ([.ref k0, .int x0]) ++ List.replicate (6 - (lg_sl ([.ref k0, .int x0])).length) Slot.unset).toArray = ls at hl ⊢
  have hl : lv_has ls 6 [(0, .ref k0), (1, .int x0)] := hl
  refine lv_aload_n hx hb dX1_order_0 rfl (lv_at hl 0 rfl) ?_
  refine lv_iload_n hx hb dX1_order_1 rfl (lv_at hl 1 rfl) ?_
  refine lv_iconst (v := nI 5) hx hb dX1_order_2 (by decide) ?_
  refine rd_calli (va_runS (As := [.int x0, .int (nI 5)]) (rest := [.ref k0]) ⟨hx, hb, hml, hown, hts⟩ (c_X1_outside l x0 5 ) (va_cwS 2 hts gX1_order_X1_outside rfl rfl rfl (by decide +kernel) ⟨Nat.le_of_ble_eq_true rfl, Nat.le_of_ble_eq_true rfl⟩) ⟨fun a U g mk q => q, fun U hU hW => ⟨rfl, trivial⟩⟩ rfl rfl hl.1 rfl (lv_room (Nat.le_of_ble_eq_true rfl)) dX1_order_3 ⟨Nat.le_of_ble_eq_true rfl, Nat.le_of_ble_eq_true rfl⟩) (fun r_1 hr_1 => ?_)
  subst hr_1
  refine kt_i (y := b2i true) (congrArg b2i (outs_out (by decide) hbad)) ?_
  refine lv_iconst (v := nI 0) hx hb dX1_order_6 (by decide) ?_
  refine lv_iconst (v := nI 0) hx hb dX1_order_7 (by decide) ?_
  have hFc := va_free (wc := WM k0 kv ko ks km kt kp kb cZ cD cI th mv io sz mk se pv pd op mw) hD hS hA [0, 1, 2, 3, 4, 5, 6, 7] rfl
  refine wr_calli (va_runV (As := [.int (b2i true), .int (b2i false), .int (b2i false)]) (rest := []) ⟨hx, hb, hml, hown, hts⟩ (c_X1_throwing l D k0 kv ko ks km kt kp kb cZ cD cI th mv io sz mk se pv pd op mw hsz s.heap.size true false false ) (cwV 3 hts gX1_order_X1_throwing rfl rfl rfl (by decide +kernel) ⟨Nat.le_of_ble_eq_true rfl, Nat.le_of_ble_eq_true rfl⟩) ⟨fun a U g mk q => ⟨q.1, q.2.1, q.2.2.1, va_K.moved (u := U) (U := U.calling g mk a) (Vm.Alike.refl U.vm) q.2.2.2.1, q.2.2.2.2⟩, va_recv hK hP (ci := 2) (q0 := 0) rfl rfl, fun U hU hW => ⟨rfl, by rw [hU], by rw [hU]; exact hP, va_K.moved hW.alike hK, hD.weaken (fun _ _ _ _ => trivial)⟩⟩ rfl rfl hl.1 rfl (lv_room (Nat.le_of_ble_eq_true rfl)) dX1_order_8 ⟨Nat.le_of_ble_eq_true rfl, Nat.le_of_ble_eq_true rfl⟩) hS hFc (fun r_2 H locs hr_2 hP _ _ hS => ?_)
  subst hr_2
  refine kt_i (y := b2i true) rfl ?_
  have hD : va_D A (WM k0 kv ko ks km kt kp kb cZ cD cI (thr true false false) mv io sz mk se pv pd op mw) := va_D_same (ws := WM k0 kv ko ks km kt kp kb cZ cD cI th mv io sz mk se pv pd op mw) rfl hD
  have hP : va_P D vwCl (WM k0 kv ko ks km kt kp kb cZ cD cI (thr true false false) mv io sz mk se pv pd op mw) H := hP
  refine kb_eq (tgt := 16) hx hb dX1_order_11 (by decide) (fun h => absurd h (by decide)) (fun _ => ?_)
  refine lv_iconst (v := nI 0) hx hb dX1_order_14 (by decide) ?_
  refine W.widen (k := 0) (n := 0) (Nat.le_of_ble_eq_true rfl) (Nat.le_of_ble_eq_true rfl) ?_
  exact W.iret (v := nI 0) hx hb hr (fun t9 ht9 hW9 => ⟨⟨_, rfl, rfl, by rw [ht9]; exact hP⟩, hS.F ht9⟩) hS.2.2 dX1_order_15
set_option maxHeartbeats 4000000 in
set_option maxRecDepth 100000 in
theorem c_X1_highest_bad (l : Launch) (D : va_G) (k0 kv ko ks km kt kp kb : Nat) (cZ cD cI : ClassId) (th : Nat) (mv : Nat → UInt64) (io : Nat → Bool) (sz : Nat → Nat) (mk : Nat → UInt64) (se : Nat → Bool) (pv : Nat → UInt64) (pd : Nat → Bool) (op : Bool) (mw : Int32) (hsz : ∀ j, sz j ≤ 12) (zz : Nat) (x0 : Int32) (hbad : ¬ (InN 6 x0)) : Met l yX1_highest wsX1_highest ({ frames := 1, cells := 0, slots := 0, locals := 23 }) (va_Pc [.ref k0, .int x0] (fun U => U.heap.size = zz ∧ va_P D vwCl (WM k0 kv ko ks km kt kp kb cZ cD cI th mv io sz mk se pv pd op mw) U.heap ∧ va_K D vwCl (TY cZ cD cI) U ∧ va_D (fun _ => True) (WM k0 kv ko ks km kt kp kb cZ cD cI th mv io sz mk se pv pd op mw))) (wr_Qd (fun r => r = FP.dconst0) (fun H => va_P D vwCl (WM k0 kv ko ks km kt kp kb cZ cD cI (thr true false false) mv io sz mk se pv pd op mw) H) (va_A (WM k0 kv ko ks km kt kp kb cZ cD cI th mv io sz mk se pv pd op mw) zz))  0 0 (va_A (WM k0 kv ko ks km kt kp kb cZ cD cI th mv io sz mk se pv pd op mw) zz) := by
  refine Met.ofW (cc := cX1_highest) (maxL := 4) (ret := some .double) (by decide) rfl ?_
  intro p e s m args below meth c s₁ B hml hv
  obtain ⟨rfl, hsz_, hP, hK, hD0⟩ := hv
  have hx := B.exec
  have hb := B.bytes
  have hr := B.returns
  have hts := atoms_spec (ws := wsX1_highest) B.pre
  have hown : s.vm.findClass RX1 = some m.cls := findClass_of_methodNamed B.named
  have hlocks := B.notSynchronized
  subst hsz_
  have hD := hD0.self (sz := s.heap.size)
  generalize hAe : va_A (WM k0 kv ko ks km kt kp kb cZ cD cI th mv io sz mk se pv pd op mw) s.heap.size = A at hD ⊢
  have hA : ∀ q : Nat, s.heap.size ≤ q → A q := fun q h => by rw [← hAe]; exact Or.inr h
  have hS : va_S A s.heap s.heap [] := va_S.rf
  have hl := lv_entry ([.ref k0, .int x0]) (n := 4) (Nat.le_of_ble_eq_true rfl)
  rw [lg_entry_eq]
  generalize (lg_sl ([.ref k0, .int x0]) ++ List.replicate (4 - (lg_sl ([.ref k0, .int x0])).length) Slot.unset).toArray = ls at hl ⊢
  have hl : lv_has ls 4 [(0, .ref k0), (1, .int x0)] := hl
  refine lv_iload_n hx hb dX1_highest_0 rfl (lv_at hl 1 rfl) ?_
  refine lv_iconst (v := nI 5) hx hb dX1_highest_1 (by decide) ?_
  refine rd_calli (va_runS (As := [.int x0, .int (nI 5)]) (rest := []) ⟨hx, hb, hml, hown, hts⟩ (c_X1_outside l x0 5 ) (va_cwS 2 hts gX1_highest_X1_outside rfl rfl rfl (by decide +kernel) ⟨Nat.le_of_ble_eq_true rfl, Nat.le_of_ble_eq_true rfl⟩) ⟨fun a U g mk q => q, fun U hU hW => ⟨rfl, trivial⟩⟩ rfl rfl hl.1 rfl (lv_room (Nat.le_of_ble_eq_true rfl)) dX1_highest_2 ⟨Nat.le_of_ble_eq_true rfl, Nat.le_of_ble_eq_true rfl⟩) (fun r_1 hr_1 => ?_)
  subst hr_1
  refine kt_i (y := b2i true) (congrArg b2i (outs_out (by decide) hbad)) ?_
  refine lv_istore_n (lv' := [(2, .int (b2i true)), (0, .ref k0), (1, .int x0)]) hx hb dX1_highest_5 rfl hl (by decide) rfl (fun ls hl => ?_)
  refine lv_iload_n hx hb dX1_highest_6 rfl (lv_at hl 0 rfl) ?_
  refine kb_eq (tgt := 14) hx hb dX1_highest_7 (by decide) (fun h => absurd h (by decide)) (fun _ => ?_)
  refine lv_iconst (v := (-1)) hx hb dX1_highest_10 (by decide) ?_
  refine lv_goto (tgt := 22) hx hb dX1_highest_11 (by decide) ?_
  refine lv_istore_n (lv' := [(3, .int ((-1))), (2, .int (b2i true)), (0, .ref k0), (1, .int x0)]) hx hb dX1_highest_22 rfl hl (by decide) rfl (fun ls hl => ?_)
  refine lv_aload_n hx hb dX1_highest_23 rfl (lv_at hl 2 rfl) ?_
  refine lv_iload_n hx hb dX1_highest_24 rfl (lv_at hl 1 rfl) ?_
  refine lv_iload_n hx hb dX1_highest_25 rfl (lv_at hl 0 rfl) ?_
  refine lv_if_ge (tgt := 33) hx hb dX1_highest_26 (by decide) (fun h => absurd h (by decide)) (fun c_x => ?_)
  refine lv_iconst (v := nI 1) hx hb dX1_highest_29 (by decide) ?_
  refine lv_goto (tgt := 34) hx hb dX1_highest_30 (by decide) ?_
  refine lv_iconst (v := nI 0) hx hb dX1_highest_34 (by decide) ?_
  have hFc := va_free (wc := WM k0 kv ko ks km kt kp kb cZ cD cI th mv io sz mk se pv pd op mw) hD hS hA [0, 1, 2, 3, 4, 5, 6, 7] rfl
  refine wr_calli (va_runV (As := [.int (b2i true), .int (b2i true), .int (b2i false)]) (rest := []) ⟨hx, hb, hml, hown, hts⟩ (c_X1_throwing l D k0 kv ko ks km kt kp kb cZ cD cI th mv io sz mk se pv pd op mw hsz s.heap.size true true false ) (cwV 3 hts gX1_highest_X1_throwing rfl rfl rfl (by decide +kernel) ⟨Nat.le_of_ble_eq_true rfl, Nat.le_of_ble_eq_true rfl⟩) ⟨fun a U g mk q => ⟨q.1, q.2.1, q.2.2.1, va_K.moved (u := U) (U := U.calling g mk a) (Vm.Alike.refl U.vm) q.2.2.2.1, q.2.2.2.2⟩, va_recv hK hP (ci := 2) (q0 := 0) rfl rfl, fun U hU hW => ⟨rfl, by rw [hU], by rw [hU]; exact hP, va_K.moved hW.alike hK, hD.weaken (fun _ _ _ _ => trivial)⟩⟩ rfl rfl hl.1 rfl (lv_room (Nat.le_of_ble_eq_true rfl)) dX1_highest_35 ⟨Nat.le_of_ble_eq_true rfl, Nat.le_of_ble_eq_true rfl⟩) hS hFc (fun r_2 H locs hr_2 hP _ _ hS => ?_)
  subst hr_2
  refine kt_i (y := b2i true) rfl ?_
  have hD : va_D A (WM k0 kv ko ks km kt kp kb cZ cD cI (thr true true false) mv io sz mk se pv pd op mw) := va_D_same (ws := WM k0 kv ko ks km kt kp kb cZ cD cI th mv io sz mk se pv pd op mw) rfl hD
  have hP : va_P D vwCl (WM k0 kv ko ks km kt kp kb cZ cD cI (thr true true false) mv io sz mk se pv pd op mw) H := hP
  refine kb_eq (tgt := 43) hx hb dX1_highest_38 (by decide) (fun h => absurd h (by decide)) (fun _ => ?_)
  refine lv_dconst0 hx hb dX1_highest_41 ?_
  refine W.widen (k := 0) (n := 0) (Nat.le_of_ble_eq_true rfl) (Nat.le_of_ble_eq_true rfl) ?_
  exact W.dret (v := FP.dconst0) hx hb hr (fun t9 ht9 hW9 => ⟨⟨_, rfl, rfl, by rw [ht9]; exact hP⟩, hS.F ht9⟩) hS.2.2 dX1_highest_42
set_option maxHeartbeats 4000000 in
set_option maxRecDepth 100000 in
theorem c_X1_calmest_bad (l : Launch) (D : va_G) (k0 kv ko ks km kt kp kb : Nat) (cZ cD cI : ClassId) (th : Nat) (mv : Nat → UInt64) (io : Nat → Bool) (sz : Nat → Nat) (mk : Nat → UInt64) (se : Nat → Bool) (pv : Nat → UInt64) (pd : Nat → Bool) (op : Bool) (mw : Int32) (hsz : ∀ j, sz j ≤ 12) (zz : Nat) (x0 : Int32) (hbad : ¬ (InN 6 x0)) : Met l yX1_calmest wsX1_calmest ({ frames := 1, cells := 0, slots := 0, locals := 23 }) (va_Pc [.ref k0, .int x0] (fun U => U.heap.size = zz ∧ va_P D vwCl (WM k0 kv ko ks km kt kp kb cZ cD cI th mv io sz mk se pv pd op mw) U.heap ∧ va_K D vwCl (TY cZ cD cI) U ∧ va_D (fun _ => True) (WM k0 kv ko ks km kt kp kb cZ cD cI th mv io sz mk se pv pd op mw))) (wr_Qf (fun r => r = FP.fconst0) (fun H => va_P D vwCl (WM k0 kv ko ks km kt kp kb cZ cD cI (thr true false false) mv io sz mk se pv pd op mw) H) (va_A (WM k0 kv ko ks km kt kp kb cZ cD cI th mv io sz mk se pv pd op mw) zz))  0 0 (va_A (WM k0 kv ko ks km kt kp kb cZ cD cI th mv io sz mk se pv pd op mw) zz) := by
  refine Met.ofW (cc := cX1_calmest) (maxL := 4) (ret := some .float) (by decide) rfl ?_
  intro p e s m args below meth c s₁ B hml hv
  obtain ⟨rfl, hsz_, hP, hK, hD0⟩ := hv
  have hx := B.exec
  have hb := B.bytes
  have hr := B.returns
  have hts := atoms_spec (ws := wsX1_calmest) B.pre
  have hown : s.vm.findClass RX1 = some m.cls := findClass_of_methodNamed B.named
  have hlocks := B.notSynchronized
  subst hsz_
  have hD := hD0.self (sz := s.heap.size)
  generalize hAe : va_A (WM k0 kv ko ks km kt kp kb cZ cD cI th mv io sz mk se pv pd op mw) s.heap.size = A at hD ⊢
  have hA : ∀ q : Nat, s.heap.size ≤ q → A q := fun q h => by rw [← hAe]; exact Or.inr h
  have hS : va_S A s.heap s.heap [] := va_S.rf
  have hl := lv_entry ([.ref k0, .int x0]) (n := 4) (Nat.le_of_ble_eq_true rfl)
  rw [lg_entry_eq]
  generalize (lg_sl ([.ref k0, .int x0]) ++ List.replicate (4 - (lg_sl ([.ref k0, .int x0])).length) Slot.unset).toArray = ls at hl ⊢
  have hl : lv_has ls 4 [(0, .ref k0), (1, .int x0)] := hl
  refine lv_iload_n hx hb dX1_calmest_0 rfl (lv_at hl 1 rfl) ?_
  refine lv_iconst (v := nI 5) hx hb dX1_calmest_1 (by decide) ?_
  refine rd_calli (va_runS (As := [.int x0, .int (nI 5)]) (rest := []) ⟨hx, hb, hml, hown, hts⟩ (c_X1_outside l x0 5 ) (va_cwS 2 hts gX1_calmest_X1_outside rfl rfl rfl (by decide +kernel) ⟨Nat.le_of_ble_eq_true rfl, Nat.le_of_ble_eq_true rfl⟩) ⟨fun a U g mk q => q, fun U hU hW => ⟨rfl, trivial⟩⟩ rfl rfl hl.1 rfl (lv_room (Nat.le_of_ble_eq_true rfl)) dX1_calmest_2 ⟨Nat.le_of_ble_eq_true rfl, Nat.le_of_ble_eq_true rfl⟩) (fun r_1 hr_1 => ?_)
  subst hr_1
  refine kt_i (y := b2i true) (congrArg b2i (outs_out (by decide) hbad)) ?_
  refine lv_istore_n (lv' := [(2, .int (b2i true)), (0, .ref k0), (1, .int x0)]) hx hb dX1_calmest_5 rfl hl (by decide) rfl (fun ls hl => ?_)
  refine lv_iload_n hx hb dX1_calmest_6 rfl (lv_at hl 0 rfl) ?_
  refine kb_eq (tgt := 14) hx hb dX1_calmest_7 (by decide) (fun h => absurd h (by decide)) (fun _ => ?_)
  refine lv_iconst (v := (-1)) hx hb dX1_calmest_10 (by decide) ?_
  refine lv_goto (tgt := 24) hx hb dX1_calmest_11 (by decide) ?_
  refine lv_istore_n (lv' := [(3, .int ((-1))), (2, .int (b2i true)), (0, .ref k0), (1, .int x0)]) hx hb dX1_calmest_24 rfl hl (by decide) rfl (fun ls hl => ?_)
  refine lv_aload_n hx hb dX1_calmest_25 rfl (lv_at hl 2 rfl) ?_
  refine lv_iload_n hx hb dX1_calmest_26 rfl (lv_at hl 1 rfl) ?_
  refine lv_iload_n hx hb dX1_calmest_27 rfl (lv_at hl 0 rfl) ?_
  refine lv_if_ge (tgt := 35) hx hb dX1_calmest_28 (by decide) (fun h => absurd h (by decide)) (fun c_x => ?_)
  refine lv_iconst (v := nI 1) hx hb dX1_calmest_31 (by decide) ?_
  refine lv_goto (tgt := 36) hx hb dX1_calmest_32 (by decide) ?_
  refine lv_iconst (v := nI 0) hx hb dX1_calmest_36 (by decide) ?_
  have hFc := va_free (wc := WM k0 kv ko ks km kt kp kb cZ cD cI th mv io sz mk se pv pd op mw) hD hS hA [0, 1, 2, 3, 4, 5, 6, 7] rfl
  refine wr_calli (va_runV (As := [.int (b2i true), .int (b2i true), .int (b2i false)]) (rest := []) ⟨hx, hb, hml, hown, hts⟩ (c_X1_throwing l D k0 kv ko ks km kt kp kb cZ cD cI th mv io sz mk se pv pd op mw hsz s.heap.size true true false ) (cwV 3 hts gX1_calmest_X1_throwing rfl rfl rfl (by decide +kernel) ⟨Nat.le_of_ble_eq_true rfl, Nat.le_of_ble_eq_true rfl⟩) ⟨fun a U g mk q => ⟨q.1, q.2.1, q.2.2.1, va_K.moved (u := U) (U := U.calling g mk a) (Vm.Alike.refl U.vm) q.2.2.2.1, q.2.2.2.2⟩, va_recv hK hP (ci := 2) (q0 := 0) rfl rfl, fun U hU hW => ⟨rfl, by rw [hU], by rw [hU]; exact hP, va_K.moved hW.alike hK, hD.weaken (fun _ _ _ _ => trivial)⟩⟩ rfl rfl hl.1 rfl (lv_room (Nat.le_of_ble_eq_true rfl)) dX1_calmest_37 ⟨Nat.le_of_ble_eq_true rfl, Nat.le_of_ble_eq_true rfl⟩) hS hFc (fun r_2 H locs hr_2 hP _ _ hS => ?_)
  subst hr_2
  refine kt_i (y := b2i true) rfl ?_
  have hD : va_D A (WM k0 kv ko ks km kt kp kb cZ cD cI (thr true true false) mv io sz mk se pv pd op mw) := va_D_same (ws := WM k0 kv ko ks km kt kp kb cZ cD cI th mv io sz mk se pv pd op mw) rfl hD
  have hP : va_P D vwCl (WM k0 kv ko ks km kt kp kb cZ cD cI (thr true true false) mv io sz mk se pv pd op mw) H := hP
  refine kb_eq (tgt := 45) hx hb dX1_calmest_40 (by decide) (fun h => absurd h (by decide)) (fun _ => ?_)
  refine lv_fconst0 hx hb dX1_calmest_43 ?_
  refine W.widen (k := 0) (n := 0) (Nat.le_of_ble_eq_true rfl) (Nat.le_of_ble_eq_true rfl) ?_
  exact W.fret (v := FP.fconst0) hx hb hr (fun t9 ht9 hW9 => ⟨⟨_, rfl, rfl, by rw [ht9]; exact hP⟩, hS.F ht9⟩) hS.2.2 dX1_calmest_44
set_option maxHeartbeats 4000000 in
set_option maxRecDepth 100000 in
theorem c_X1_same_bad (l : Launch) (D : va_G) (k0 kv ko ks km kt kp kb : Nat) (cZ cD cI : ClassId) (th : Nat) (mv : Nat → UInt64) (io : Nat → Bool) (sz : Nat → Nat) (mk : Nat → UInt64) (se : Nat → Bool) (pv : Nat → UInt64) (pd : Nat → Bool) (op : Bool) (mw : Int32) (hsz : ∀ j, sz j ≤ 12) (zz : Nat) (x0 : Int32) (x1 : Int32) (hbad : ¬ (InN 6 x0 ∧ InN 6 x1)) : Met l yX1_same wsX1_same ({ frames := 1, cells := 0, slots := 0, locals := 23 }) (va_Pc [.ref k0, .int x0, .int x1] (fun U => U.heap.size = zz ∧ va_P D vwCl (WM k0 kv ko ks km kt kp kb cZ cD cI th mv io sz mk se pv pd op mw) U.heap ∧ va_K D vwCl (TY cZ cD cI) U ∧ va_D (fun _ => True) (WM k0 kv ko ks km kt kp kb cZ cD cI th mv io sz mk se pv pd op mw))) (wr_Qi (fun r => r = nI 0) (fun H => va_P D vwCl (WM k0 kv ko ks km kt kp kb cZ cD cI (thr true false false) mv io sz mk se pv pd op mw) H) (va_A (WM k0 kv ko ks km kt kp kb cZ cD cI th mv io sz mk se pv pd op mw) zz))  0 0 (va_A (WM k0 kv ko ks km kt kp kb cZ cD cI th mv io sz mk se pv pd op mw) zz) := by
  refine Met.ofW (cc := cX1_same) (maxL := 9) (ret := some .int) (by decide) rfl ?_
  intro p e s m args below meth c s₁ B hml hv
  obtain ⟨rfl, hsz_, hP, hK, hD0⟩ := hv
  have hx := B.exec
  have hb := B.bytes
  have hr := B.returns
  have hts := atoms_spec (ws := wsX1_same) B.pre
  have hown : s.vm.findClass RX1 = some m.cls := findClass_of_methodNamed B.named
  have hlocks := B.notSynchronized
  subst hsz_
  have hD := hD0.self (sz := s.heap.size)
  generalize hAe : va_A (WM k0 kv ko ks km kt kp kb cZ cD cI th mv io sz mk se pv pd op mw) s.heap.size = A at hD ⊢
  have hA : ∀ q : Nat, s.heap.size ≤ q → A q := fun q h => by rw [← hAe]; exact Or.inr h
  have hS : va_S A s.heap s.heap [] := va_S.rf
  have hl := lv_entry ([.ref k0, .int x0, .int x1]) (n := 9) (Nat.le_of_ble_eq_true rfl)
  rw [lg_entry_eq]
  generalize (lg_sl ([.ref k0, .int x0, .int x1]) ++ List.replicate (9 - (lg_sl ([.ref k0, .int x0, .int x1])).length) Slot.unset).toArray = ls at hl ⊢
  have hl : lv_has ls 9 [(0, .ref k0), (1, .int x0), (2, .int x1)] := hl
  refine lv_aload_n hx hb dX1_same_0 rfl (lv_at hl 0 rfl) ?_
  refine lv_iload_n hx hb dX1_same_1 rfl (lv_at hl 1 rfl) ?_
  refine lv_iconst (v := nI 5) hx hb dX1_same_2 (by decide) ?_
  refine rd_calli (va_runS (As := [.int x0, .int (nI 5)]) (rest := [.ref k0]) ⟨hx, hb, hml, hown, hts⟩ (c_X1_outside l x0 5 ) (va_cwS 2 hts gX1_same_X1_outside rfl rfl rfl (by decide +kernel) ⟨Nat.le_of_ble_eq_true rfl, Nat.le_of_ble_eq_true rfl⟩) ⟨fun a U g mk q => q, fun U hU hW => ⟨rfl, trivial⟩⟩ rfl rfl hl.1 rfl (lv_room (Nat.le_of_ble_eq_true rfl)) dX1_same_3 ⟨Nat.le_of_ble_eq_true rfl, Nat.le_of_ble_eq_true rfl⟩) (fun r_1 hr_1 => ?_)
  subst hr_1
  refine kb_ne (tgt := 17) hx hb dX1_same_6 (by decide) (fun c_2 => ?_) (fun c_2 => ?_)
  · refine lv_iconst (v := nI 1) hx hb dX1_same_17 (by decide) ?_
    refine lv_goto (tgt := 22) hx hb dX1_same_18 (by decide) ?_
    refine lv_iconst (v := nI 0) hx hb dX1_same_22 (by decide) ?_
    refine lv_iconst (v := nI 0) hx hb dX1_same_23 (by decide) ?_
    have hFc := va_free (wc := WM k0 kv ko ks km kt kp kb cZ cD cI th mv io sz mk se pv pd op mw) hD hS hA [0, 1, 2, 3, 4, 5, 6, 7] rfl
    refine wr_calli (va_runV (As := [.int (b2i true), .int (b2i false), .int (b2i false)]) (rest := []) ⟨hx, hb, hml, hown, hts⟩ (c_X1_throwing l D k0 kv ko ks km kt kp kb cZ cD cI th mv io sz mk se pv pd op mw hsz s.heap.size true false false ) (cwV 3 hts gX1_same_X1_throwing rfl rfl rfl (by decide +kernel) ⟨Nat.le_of_ble_eq_true rfl, Nat.le_of_ble_eq_true rfl⟩) ⟨fun a U g mk q => ⟨q.1, q.2.1, q.2.2.1, va_K.moved (u := U) (U := U.calling g mk a) (Vm.Alike.refl U.vm) q.2.2.2.1, q.2.2.2.2⟩, va_recv hK hP (ci := 2) (q0 := 0) rfl rfl, fun U hU hW => ⟨rfl, by rw [hU], by rw [hU]; exact hP, va_K.moved hW.alike hK, hD.weaken (fun _ _ _ _ => trivial)⟩⟩ rfl rfl hl.1 rfl (lv_room (Nat.le_of_ble_eq_true rfl)) dX1_same_24 ⟨Nat.le_of_ble_eq_true rfl, Nat.le_of_ble_eq_true rfl⟩) hS hFc (fun r_3 H locs hr_3 hP _ _ hS => ?_)
    subst hr_3
    refine kt_i (y := b2i true) rfl ?_
    have hD : va_D A (WM k0 kv ko ks km kt kp kb cZ cD cI (thr true false false) mv io sz mk se pv pd op mw) := va_D_same (ws := WM k0 kv ko ks km kt kp kb cZ cD cI th mv io sz mk se pv pd op mw) rfl hD
    have hP : va_P D vwCl (WM k0 kv ko ks km kt kp kb cZ cD cI (thr true false false) mv io sz mk se pv pd op mw) H := hP
    refine kb_eq (tgt := 32) hx hb dX1_same_27 (by decide) (fun h => absurd h (by decide)) (fun _ => ?_)
    refine lv_iconst (v := nI 0) hx hb dX1_same_30 (by decide) ?_
    refine W.widen (k := 0) (n := 0) (Nat.le_of_ble_eq_true rfl) (Nat.le_of_ble_eq_true rfl) ?_
    exact W.iret (v := nI 0) hx hb hr (fun t9 ht9 hW9 => ⟨⟨_, rfl, rfl, by rw [ht9]; exact hP⟩, hS.F ht9⟩) hS.2.2 dX1_same_31
  · refine lv_iload_n hx hb dX1_same_9 rfl (lv_at hl 2 rfl) ?_
    refine lv_iconst (v := nI 5) hx hb dX1_same_10 (by decide) ?_
    refine rd_calli (va_runS (As := [.int x1, .int (nI 5)]) (rest := [.ref k0]) ⟨hx, hb, hml, hown, hts⟩ (c_X1_outside l x1 5 ) (va_cwS 2 hts gX1_same_X1_outside rfl rfl rfl (by decide +kernel) ⟨Nat.le_of_ble_eq_true rfl, Nat.le_of_ble_eq_true rfl⟩) ⟨fun a U g mk q => q, fun U hU hW => ⟨rfl, trivial⟩⟩ rfl rfl hl.1 rfl (lv_room (Nat.le_of_ble_eq_true rfl)) dX1_same_11 ⟨Nat.le_of_ble_eq_true rfl, Nat.le_of_ble_eq_true rfl⟩) (fun r_4 hr_4 => ?_)
    subst hr_4
    refine kb_eq (tgt := 21) hx hb dX1_same_14 (by decide) (fun c_5 => ?_) (fun c_5 => ?_)
    · refine lv_iconst (v := nI 0) hx hb dX1_same_21 (by decide) ?_
      exact absurd (show InN 6 x0 ∧ InN 6 x1 from ⟨outs_in (by decide) c_2, outs_in (by decide) c_5⟩) hbad
    · refine lv_iconst (v := nI 1) hx hb dX1_same_17 (by decide) ?_
      refine lv_goto (tgt := 22) hx hb dX1_same_18 (by decide) ?_
      refine lv_iconst (v := nI 0) hx hb dX1_same_22 (by decide) ?_
      refine lv_iconst (v := nI 0) hx hb dX1_same_23 (by decide) ?_
      have hFc := va_free (wc := WM k0 kv ko ks km kt kp kb cZ cD cI th mv io sz mk se pv pd op mw) hD hS hA [0, 1, 2, 3, 4, 5, 6, 7] rfl
      refine wr_calli (va_runV (As := [.int (b2i true), .int (b2i false), .int (b2i false)]) (rest := []) ⟨hx, hb, hml, hown, hts⟩ (c_X1_throwing l D k0 kv ko ks km kt kp kb cZ cD cI th mv io sz mk se pv pd op mw hsz s.heap.size true false false ) (cwV 3 hts gX1_same_X1_throwing rfl rfl rfl (by decide +kernel) ⟨Nat.le_of_ble_eq_true rfl, Nat.le_of_ble_eq_true rfl⟩) ⟨fun a U g mk q => ⟨q.1, q.2.1, q.2.2.1, va_K.moved (u := U) (U := U.calling g mk a) (Vm.Alike.refl U.vm) q.2.2.2.1, q.2.2.2.2⟩, va_recv hK hP (ci := 2) (q0 := 0) rfl rfl, fun U hU hW => ⟨rfl, by rw [hU], by rw [hU]; exact hP, va_K.moved hW.alike hK, hD.weaken (fun _ _ _ _ => trivial)⟩⟩ rfl rfl hl.1 rfl (lv_room (Nat.le_of_ble_eq_true rfl)) dX1_same_24 ⟨Nat.le_of_ble_eq_true rfl, Nat.le_of_ble_eq_true rfl⟩) hS hFc (fun r_6 H locs hr_6 hP _ _ hS => ?_)
      subst hr_6
      refine kt_i (y := b2i true) rfl ?_
      have hD : va_D A (WM k0 kv ko ks km kt kp kb cZ cD cI (thr true false false) mv io sz mk se pv pd op mw) := va_D_same (ws := WM k0 kv ko ks km kt kp kb cZ cD cI th mv io sz mk se pv pd op mw) rfl hD
      have hP : va_P D vwCl (WM k0 kv ko ks km kt kp kb cZ cD cI (thr true false false) mv io sz mk se pv pd op mw) H := hP
      refine kb_eq (tgt := 32) hx hb dX1_same_27 (by decide) (fun h => absurd h (by decide)) (fun _ => ?_)
      refine lv_iconst (v := nI 0) hx hb dX1_same_30 (by decide) ?_
      refine W.widen (k := 0) (n := 0) (Nat.le_of_ble_eq_true rfl) (Nat.le_of_ble_eq_true rfl) ?_
      exact W.iret (v := nI 0) hx hb hr (fun t9 ht9 hW9 => ⟨⟨_, rfl, rfl, by rw [ht9]; exact hP⟩, hS.F ht9⟩) hS.2.2 dX1_same_31
set_option maxHeartbeats 4000000 in
set_option maxRecDepth 100000 in
theorem c_X1_size_bad (l : Launch) (D : va_G) (k0 kv ko ks km kt kp kb : Nat) (cZ cD cI : ClassId) (th : Nat) (mv : Nat → UInt64) (io : Nat → Bool) (sz : Nat → Nat) (mk : Nat → UInt64) (se : Nat → Bool) (pv : Nat → UInt64) (pd : Nat → Bool) (op : Bool) (mw : Int32) (hsz : ∀ j, sz j ≤ 12) (zz : Nat) (x0 : Int32) (x1 : Int32) (hbad : ¬ (InN 6 x0 ∧ InN 2 x1)) : Met l yX1_size wsX1_size ({ frames := 1, cells := 0, slots := 0, locals := 23 }) (va_Pc [.ref k0, .int x0, .int x1] (fun U => U.heap.size = zz ∧ va_P D vwCl (WM k0 kv ko ks km kt kp kb cZ cD cI th mv io sz mk se pv pd op mw) U.heap ∧ va_K D vwCl (TY cZ cD cI) U ∧ va_D (fun _ => True) (WM k0 kv ko ks km kt kp kb cZ cD cI th mv io sz mk se pv pd op mw))) (wr_Qi (fun r => r = nI 0) (fun H => va_P D vwCl (WM k0 kv ko ks km kt kp kb cZ cD cI (thr true false false) mv io sz mk se pv pd op mw) H) (va_A (WM k0 kv ko ks km kt kp kb cZ cD cI th mv io sz mk se pv pd op mw) zz))  0 0 (va_A (WM k0 kv ko ks km kt kp kb cZ cD cI th mv io sz mk se pv pd op mw) zz) := by
  refine Met.ofW (cc := cX1_size) (maxL := 3) (ret := some .int) (by decide) rfl ?_
  intro p e s m args below meth c s₁ B hml hv
  obtain ⟨rfl, hsz_, hP, hK, hD0⟩ := hv
  have hx := B.exec
  have hb := B.bytes
  have hr := B.returns
  have hts := atoms_spec (ws := wsX1_size) B.pre
  have hown : s.vm.findClass RX1 = some m.cls := findClass_of_methodNamed B.named
  have hlocks := B.notSynchronized
  subst hsz_
  have hD := hD0.self (sz := s.heap.size)
  generalize hAe : va_A (WM k0 kv ko ks km kt kp kb cZ cD cI th mv io sz mk se pv pd op mw) s.heap.size = A at hD ⊢
  have hA : ∀ q : Nat, s.heap.size ≤ q → A q := fun q h => by rw [← hAe]; exact Or.inr h
  have hS : va_S A s.heap s.heap [] := va_S.rf
  have hl := lv_entry ([.ref k0, .int x0, .int x1]) (n := 3) (Nat.le_of_ble_eq_true rfl)
  rw [lg_entry_eq]
  generalize (lg_sl ([.ref k0, .int x0, .int x1]) ++ List.replicate (3 - (lg_sl ([.ref k0, .int x0, .int x1])).length) Slot.unset).toArray = ls at hl ⊢
  have hl : lv_has ls 3 [(0, .ref k0), (1, .int x0), (2, .int x1)] := hl
  refine lv_aload_n hx hb dX1_size_0 rfl (lv_at hl 0 rfl) ?_
  refine lv_iload_n hx hb dX1_size_1 rfl (lv_at hl 1 rfl) ?_
  refine lv_iconst (v := nI 5) hx hb dX1_size_2 (by decide) ?_
  refine rd_calli (va_runS (As := [.int x0, .int (nI 5)]) (rest := [.ref k0]) ⟨hx, hb, hml, hown, hts⟩ (c_X1_outside l x0 5 ) (va_cwS 2 hts gX1_size_X1_outside rfl rfl rfl (by decide +kernel) ⟨Nat.le_of_ble_eq_true rfl, Nat.le_of_ble_eq_true rfl⟩) ⟨fun a U g mk q => q, fun U hU hW => ⟨rfl, trivial⟩⟩ rfl rfl hl.1 rfl (lv_room (Nat.le_of_ble_eq_true rfl)) dX1_size_3 ⟨Nat.le_of_ble_eq_true rfl, Nat.le_of_ble_eq_true rfl⟩) (fun r_1 hr_1 => ?_)
  subst hr_1
  refine kb_ne (tgt := 17) hx hb dX1_size_6 (by decide) (fun c_2 => ?_) (fun c_2 => ?_)
  · refine lv_iconst (v := nI 1) hx hb dX1_size_17 (by decide) ?_
    refine lv_goto (tgt := 22) hx hb dX1_size_18 (by decide) ?_
    refine lv_iconst (v := nI 0) hx hb dX1_size_22 (by decide) ?_
    refine lv_iconst (v := nI 0) hx hb dX1_size_23 (by decide) ?_
    have hFc := va_free (wc := WM k0 kv ko ks km kt kp kb cZ cD cI th mv io sz mk se pv pd op mw) hD hS hA [0, 1, 2, 3, 4, 5, 6, 7] rfl
    refine wr_calli (va_runV (As := [.int (b2i true), .int (b2i false), .int (b2i false)]) (rest := []) ⟨hx, hb, hml, hown, hts⟩ (c_X1_throwing l D k0 kv ko ks km kt kp kb cZ cD cI th mv io sz mk se pv pd op mw hsz s.heap.size true false false ) (cwV 3 hts gX1_size_X1_throwing rfl rfl rfl (by decide +kernel) ⟨Nat.le_of_ble_eq_true rfl, Nat.le_of_ble_eq_true rfl⟩) ⟨fun a U g mk q => ⟨q.1, q.2.1, q.2.2.1, va_K.moved (u := U) (U := U.calling g mk a) (Vm.Alike.refl U.vm) q.2.2.2.1, q.2.2.2.2⟩, va_recv hK hP (ci := 2) (q0 := 0) rfl rfl, fun U hU hW => ⟨rfl, by rw [hU], by rw [hU]; exact hP, va_K.moved hW.alike hK, hD.weaken (fun _ _ _ _ => trivial)⟩⟩ rfl rfl hl.1 rfl (lv_room (Nat.le_of_ble_eq_true rfl)) dX1_size_24 ⟨Nat.le_of_ble_eq_true rfl, Nat.le_of_ble_eq_true rfl⟩) hS hFc (fun r_3 H locs hr_3 hP _ _ hS => ?_)
    subst hr_3
    refine kt_i (y := b2i true) rfl ?_
    have hD : va_D A (WM k0 kv ko ks km kt kp kb cZ cD cI (thr true false false) mv io sz mk se pv pd op mw) := va_D_same (ws := WM k0 kv ko ks km kt kp kb cZ cD cI th mv io sz mk se pv pd op mw) rfl hD
    have hP : va_P D vwCl (WM k0 kv ko ks km kt kp kb cZ cD cI (thr true false false) mv io sz mk se pv pd op mw) H := hP
    refine kb_eq (tgt := 32) hx hb dX1_size_27 (by decide) (fun h => absurd h (by decide)) (fun _ => ?_)
    refine lv_iconst (v := nI 0) hx hb dX1_size_30 (by decide) ?_
    refine W.widen (k := 0) (n := 0) (Nat.le_of_ble_eq_true rfl) (Nat.le_of_ble_eq_true rfl) ?_
    exact W.iret (v := nI 0) hx hb hr (fun t9 ht9 hW9 => ⟨⟨_, rfl, rfl, by rw [ht9]; exact hP⟩, hS.F ht9⟩) hS.2.2 dX1_size_31
  · refine lv_iload_n hx hb dX1_size_9 rfl (lv_at hl 2 rfl) ?_
    refine lv_iconst (v := nI 1) hx hb dX1_size_10 (by decide) ?_
    refine rd_calli (va_runS (As := [.int x1, .int (nI 1)]) (rest := [.ref k0]) ⟨hx, hb, hml, hown, hts⟩ (c_X1_outside l x1 1 ) (va_cwS 2 hts gX1_size_X1_outside rfl rfl rfl (by decide +kernel) ⟨Nat.le_of_ble_eq_true rfl, Nat.le_of_ble_eq_true rfl⟩) ⟨fun a U g mk q => q, fun U hU hW => ⟨rfl, trivial⟩⟩ rfl rfl hl.1 rfl (lv_room (Nat.le_of_ble_eq_true rfl)) dX1_size_11 ⟨Nat.le_of_ble_eq_true rfl, Nat.le_of_ble_eq_true rfl⟩) (fun r_4 hr_4 => ?_)
    subst hr_4
    refine kb_eq (tgt := 21) hx hb dX1_size_14 (by decide) (fun c_5 => ?_) (fun c_5 => ?_)
    · refine lv_iconst (v := nI 0) hx hb dX1_size_21 (by decide) ?_
      exact absurd (show InN 6 x0 ∧ InN 2 x1 from ⟨outs_in (by decide) c_2, outs_in (by decide) c_5⟩) hbad
    · refine lv_iconst (v := nI 1) hx hb dX1_size_17 (by decide) ?_
      refine lv_goto (tgt := 22) hx hb dX1_size_18 (by decide) ?_
      refine lv_iconst (v := nI 0) hx hb dX1_size_22 (by decide) ?_
      refine lv_iconst (v := nI 0) hx hb dX1_size_23 (by decide) ?_
      have hFc := va_free (wc := WM k0 kv ko ks km kt kp kb cZ cD cI th mv io sz mk se pv pd op mw) hD hS hA [0, 1, 2, 3, 4, 5, 6, 7] rfl
      refine wr_calli (va_runV (As := [.int (b2i true), .int (b2i false), .int (b2i false)]) (rest := []) ⟨hx, hb, hml, hown, hts⟩ (c_X1_throwing l D k0 kv ko ks km kt kp kb cZ cD cI th mv io sz mk se pv pd op mw hsz s.heap.size true false false ) (cwV 3 hts gX1_size_X1_throwing rfl rfl rfl (by decide +kernel) ⟨Nat.le_of_ble_eq_true rfl, Nat.le_of_ble_eq_true rfl⟩) ⟨fun a U g mk q => ⟨q.1, q.2.1, q.2.2.1, va_K.moved (u := U) (U := U.calling g mk a) (Vm.Alike.refl U.vm) q.2.2.2.1, q.2.2.2.2⟩, va_recv hK hP (ci := 2) (q0 := 0) rfl rfl, fun U hU hW => ⟨rfl, by rw [hU], by rw [hU]; exact hP, va_K.moved hW.alike hK, hD.weaken (fun _ _ _ _ => trivial)⟩⟩ rfl rfl hl.1 rfl (lv_room (Nat.le_of_ble_eq_true rfl)) dX1_size_24 ⟨Nat.le_of_ble_eq_true rfl, Nat.le_of_ble_eq_true rfl⟩) hS hFc (fun r_6 H locs hr_6 hP _ _ hS => ?_)
      subst hr_6
      refine kt_i (y := b2i true) rfl ?_
      have hD : va_D A (WM k0 kv ko ks km kt kp kb cZ cD cI (thr true false false) mv io sz mk se pv pd op mw) := va_D_same (ws := WM k0 kv ko ks km kt kp kb cZ cD cI th mv io sz mk se pv pd op mw) rfl hD
      have hP : va_P D vwCl (WM k0 kv ko ks km kt kp kb cZ cD cI (thr true false false) mv io sz mk se pv pd op mw) H := hP
      refine kb_eq (tgt := 32) hx hb dX1_size_27 (by decide) (fun h => absurd h (by decide)) (fun _ => ?_)
      refine lv_iconst (v := nI 0) hx hb dX1_size_30 (by decide) ?_
      refine W.widen (k := 0) (n := 0) (Nat.le_of_ble_eq_true rfl) (Nat.le_of_ble_eq_true rfl) ?_
      exact W.iret (v := nI 0) hx hb hr (fun t9 ht9 hW9 => ⟨⟨_, rfl, rfl, by rw [ht9]; exact hP⟩, hS.F ht9⟩) hS.2.2 dX1_size_31
