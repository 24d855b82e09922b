theorem and_t {a b c : Bool} (h : a = true) (h2 : b = c) : (a && b) = c := by rw [h, h2]; cases c <;> rfl
theorem and_f {a b : Bool} (h : a = false) : (a && b) = false := by rw [h]; rfl
theorem tMo_of {io : Nat → Bool} {mv : Nat → UInt64} {sz : Nat → Nat} {mk : Nat → UInt64} {se : Nat → Bool} {op A B C : Bool} (h1 : op = A) (h2 : decide (¬ wy (lo io sz 0 || lo io sz 2) (lw mv sz 0) (lw mv sz 2) = 4) = B) (h3 : (se 5 && decide (¬ wy (lo io sz 3 || !se 5) (lw mv sz 3) (mk 5) = 1)) = C) : tMo io mv sz mk se op = thr A B C := by unfold tMo; rw [h1, h2, h3]
theorem tMs_of {io : Nat → Bool} {mv : Nat → UInt64} {sz : Nat → Nat} {mk : Nat → UInt64} {se : Nat → Bool} {op A B C : Bool} (h1 : (!op) = A) (h2 : decide (wy (lo io sz 0 || !se 0) (lw mv sz 0) (mk 0) = 4) = B) (h3 : decide (wy (lo io sz 2 || !se 1) (lw mv sz 2) (mk 1) < 4) = C) : tMs io mv sz mk se op = thr A B C := by unfold tMs; rw [h1, h2, h3]
set_option maxHeartbeats 4000000 in
set_option maxRecDepth 100000 in
theorem c_X1_move_true (l : Launch) (D : va_G) (k0 kv ko ks km kt kp kb : Nat) (cZ cD cI : ClassId) (th : Nat) (mv : Nat → UInt64) (io : Nat → Bool) (sz : Nat → Nat) (mk : Nat → UInt64) (se : Nat → Bool) (pv : Nat → UInt64) (pd : Nat → Bool) (op : Bool) (mw : Int32) (hsz : ∀ j, sz j ≤ 12) (zz : Nat)  : Met l yX1_move wsX1_move ({ frames := 3, cells := 0, slots := 0, locals := 64 }) (va_Pc [.ref k0, .int (b2i true)] (fun U => U.heap.size = zz ∧ va_P D vwCl (WM k0 kv ko ks km kt kp kb cZ cD cI th mv io sz mk se pv pd op mw) U.heap ∧ va_K D vwCl (TY cZ cD cI) U ∧ va_D (fun _ => True) (WM k0 kv ko ks km kt kp kb cZ cD cI th mv io sz mk se pv pd op mw))) (wr_Qi (fun r => r = (if (tMo io mv sz mk se op) = 0 then mw + 1 else 0)) (fun H => va_P D vwCl (WM k0 kv ko ks km kt kp kb cZ cD cI (tMo io mv sz mk se op) mv io sz mk se pv pd (if (tMo io mv sz mk se op) = 0 then true else op) (if (tMo io mv sz mk se op) = 0 then mw + 1 else mw)) H) (va_A (WM k0 kv ko ks km kt kp kb cZ cD cI th mv io sz mk se pv pd op mw) zz))  0 0 (va_A (WM k0 kv ko ks km kt kp kb cZ cD cI th mv io sz mk se pv pd op mw) zz) := by
  refine Met.ofW (cc := cX1_move) (maxL := 9) (ret := some .int) (by decide) rfl ?_
  intro p e s m args below meth c s₁ B hml hv
  obtain ⟨rfl, hsz_, hP, hK, hD0⟩ := hv
  have hx := B.exec
  have hb := B.bytes
  have hr := B.returns
  have hts := atoms_spec (ws := wsX1_move) B.pre
  have hown : s.vm.findClass RX1 = some m.cls := findClass_of_methodNamed B.named
  have hlocks := B.notSynchronized
  subst hsz_
  have hD := hD0.self (sz := s.heap.size)
  generalize hAe : va_A (WM k0 kv ko ks km kt kp kb cZ cD cI th mv io sz mk se pv pd op mw) s.heap.size = A at hD ⊢
  have hA : ∀ q : Nat, s.heap.size ≤ q → A q := fun q h => by rw [← hAe]; exact Or.inr h
  have hS : va_S A s.heap s.heap [] := va_S.rf
  have hl := lv_entry ([.ref k0, .int (b2i true)]) (n := 9) (Nat.le_of_ble_eq_true rfl)
  rw [lg_entry_eq]
  generalize (lg_sl ([.ref k0, .int (b2i true)]) ++ List.replicate (9 - (lg_sl ([.ref k0, .int (b2i true)])).length) Slot.unset).toArray = ls at hl ⊢
  have hl : lv_has ls 9 [(0, .ref k0), (1, .int (b2i true))] := hl
  have hinRX1 : ∀ w ∈ wsX10, w ∈ wsX1_move := by decide +kernel
  have hf_111 := hts (.fieldLink RX1 111 "HarbourBoardModel" "isOpen" "Z") (by decide +kernel)
  have hf_21 := hts (.fieldLink RX1 21 "HarbourBoardModel" "markValue" "[D") (by decide +kernel)
  have hf_24 := hts (.fieldLink RX1 24 "HarbourBoardModel" "isSet" "[Z") (by decide +kernel)
  have hf_115 := hts (.fieldLink RX1 115 "HarbourBoardModel" "moves" "I") (by decide +kernel)
  refine lv_aload_n hx hb dX1_move_0 rfl (lv_at hl 0 rfl) ?_
  refine va_get (D := D) (ci := 2) (v := .int (b2i op)) (C := RX1) (T := TX1) (N := 10) hx hb hts hinRX1 hown hK hP 0 rfl rfl 8 (by decide) hf_111 (fun _ h9 => h9) rfl dX1_move_1 ?_
  refine lv_iload_n hx hb dX1_move_4 rfl (lv_at hl 1 rfl) ?_
  refine kb_icmp_ne (tgt := 12) hx hb dX1_move_5 (by decide) (fun c_1 => ?_) (fun c_1 => ?_)
  · refine lv_iconst (v := nI 0) hx hb dX1_move_12 (by decide) ?_
    refine lv_istore_n (lv' := [(2, .int (nI 0)), (0, .ref k0), (1, .int (b2i true))]) hx hb dX1_move_13 rfl hl (by decide) rfl (fun ls hl => ?_)
    refine lv_aload_n hx hb dX1_move_14 rfl (lv_at hl 1 rfl) ?_
    refine lv_iconst (v := nI 0) hx hb dX1_move_15 (by decide) ?_
    refine lv_iconst (v := nI 2) hx hb dX1_move_16 (by decide) ?_
    refine rd_calli (va_runV (As := [.int (nI 0), .int (nI 2)]) (rest := []) ⟨hx, hb, hml, hown, hts⟩ (c_X1_latestWay l D k0 kv ko ks km kt kp kb cZ cD cI th mv io sz mk se pv pd op mw hsz 0 2 (by omega) (by omega)) (cwV 2 hts gX1_move_X1_latestWay rfl rfl rfl (by decide +kernel) ⟨Nat.le_of_ble_eq_true rfl, Nat.le_of_ble_eq_true rfl⟩) ⟨fun a U g mk q => ⟨q.1, q.2.1, va_K.moved (u := U) (U := U.calling g mk a) (Vm.Alike.refl U.vm) q.2.2⟩, va_recv hK hP (ci := 2) (q0 := 0) rfl rfl, fun U hU hW => ⟨rfl, by rw [hU]; exact hP, va_K.moved hW.alike hK⟩⟩ rfl rfl hl.1 rfl (lv_room (Nat.le_of_ble_eq_true rfl)) dX1_move_17 ⟨Nat.le_of_ble_eq_true rfl, Nat.le_of_ble_eq_true rfl⟩) (fun r_2 hr_2 => ?_)
    subst hr_2
    refine lv_istore_n (lv' := [(3, .int (nI (wy (lo io sz 0 || lo io sz 2) (lw mv sz 0) (lw mv sz 2)))), (2, .int (nI 0)), (0, .ref k0), (1, .int (b2i true))]) hx hb dX1_move_20 rfl hl (by decide) rfl (fun ls hl => ?_)
    refine lv_aload_n hx hb dX1_move_21 rfl (lv_at hl 2 rfl) ?_
    refine lv_iconst (v := nI 3) hx hb dX1_move_22 (by decide) ?_
    refine lv_iconst (v := nI 5) hx hb dX1_move_23 (by decide) ?_
    refine rd_calli (va_runV (As := [.int (nI 3), .int (nI 5)]) (rest := []) ⟨hx, hb, hml, hown, hts⟩ (c_X1_markWay l D k0 kv ko ks km kt kp kb cZ cD cI th mv io sz mk se pv pd op mw hsz 3 5 (by omega) (by omega)) (cwV 2 hts gX1_move_X1_markWay rfl rfl rfl (by decide +kernel) ⟨Nat.le_of_ble_eq_true rfl, Nat.le_of_ble_eq_true rfl⟩) ⟨fun a U g mk q => ⟨q.1, q.2.1, va_K.moved (u := U) (U := U.calling g mk a) (Vm.Alike.refl U.vm) q.2.2⟩, va_recv hK hP (ci := 2) (q0 := 0) rfl rfl, fun U hU hW => ⟨rfl, by rw [hU]; exact hP, va_K.moved hW.alike hK⟩⟩ rfl rfl hl.1 rfl (lv_room (Nat.le_of_ble_eq_true rfl)) dX1_move_24 ⟨Nat.le_of_ble_eq_true rfl, Nat.le_of_ble_eq_true rfl⟩) (fun r_3 hr_3 => ?_)
    subst hr_3
    refine lv_istore (lv' := [(4, .int (nI (wy (lo io sz 3 || !se 5) (lw mv sz 3) (mk 5)))), (3, .int (nI (wy (lo io sz 0 || lo io sz 2) (lw mv sz 0) (lw mv sz 2)))), (2, .int (nI 0)), (0, .ref k0), (1, .int (b2i true))]) hx hb dX1_move_27 hl (by decide) rfl (fun ls hl => ?_)
    refine lv_aload_n hx hb dX1_move_29 rfl (lv_at hl 3 rfl) ?_
    refine lv_iconst (v := nI 0) hx hb dX1_move_30 (by decide) ?_
    refine lv_iconst (v := nI 0) hx hb dX1_move_31 (by decide) ?_
    refine rd_calli (va_runV (As := [.int (nI 0), .int (nI 0)]) (rest := []) ⟨hx, hb, hml, hown, hts⟩ (c_X1_markWay l D k0 kv ko ks km kt kp kb cZ cD cI th mv io sz mk se pv pd op mw hsz 0 0 (by omega) (by omega)) (cwV 2 hts gX1_move_X1_markWay rfl rfl rfl (by decide +kernel) ⟨Nat.le_of_ble_eq_true rfl, Nat.le_of_ble_eq_true rfl⟩) ⟨fun a U g mk q => ⟨q.1, q.2.1, va_K.moved (u := U) (U := U.calling g mk a) (Vm.Alike.refl U.vm) q.2.2⟩, va_recv hK hP (ci := 2) (q0 := 0) rfl rfl, fun U hU hW => ⟨rfl, by rw [hU]; exact hP, va_K.moved hW.alike hK⟩⟩ rfl rfl hl.1 rfl (lv_room (Nat.le_of_ble_eq_true rfl)) dX1_move_32 ⟨Nat.le_of_ble_eq_true rfl, Nat.le_of_ble_eq_true rfl⟩) (fun r_4 hr_4 => ?_)
    subst hr_4
    refine lv_istore (lv' := [(5, .int (nI (wy (lo io sz 0 || !se 0) (lw mv sz 0) (mk 0)))), (4, .int (nI (wy (lo io sz 3 || !se 5) (lw mv sz 3) (mk 5)))), (3, .int (nI (wy (lo io sz 0 || lo io sz 2) (lw mv sz 0) (lw mv sz 2)))), (2, .int (nI 0)), (0, .ref k0), (1, .int (b2i true))]) hx hb dX1_move_35 hl (by decide) rfl (fun ls hl => ?_)
    refine lv_aload_n hx hb dX1_move_37 rfl (lv_at hl 4 rfl) ?_
    refine lv_iconst (v := nI 2) hx hb dX1_move_38 (by decide) ?_
    refine rd_calli (va_runV (As := [.int (nI 2)]) (rest := []) ⟨hx, hb, hml, hown, hts⟩ (c_X1_latestOut l D k0 kv ko ks km kt kp kb cZ cD cI th mv io sz mk se pv pd op mw hsz 2 (by omega)) (cwV 1 hts gX1_move_X1_latestOut rfl rfl rfl (by decide +kernel) ⟨Nat.le_of_ble_eq_true rfl, Nat.le_of_ble_eq_true rfl⟩) ⟨fun a U g mk q => ⟨q.1, q.2.1, va_K.moved (u := U) (U := U.calling g mk a) (Vm.Alike.refl U.vm) q.2.2⟩, va_recv hK hP (ci := 2) (q0 := 0) rfl rfl, fun U hU hW => ⟨rfl, by rw [hU]; exact hP, va_K.moved hW.alike hK⟩⟩ rfl rfl hl.1 rfl (lv_room (Nat.le_of_ble_eq_true rfl)) dX1_move_39 ⟨Nat.le_of_ble_eq_true rfl, Nat.le_of_ble_eq_true rfl⟩) (fun r_5 hr_5 => ?_)
    subst hr_5
    refine kb_ne (tgt := 54) hx hb dX1_move_42 (by decide) (fun c_6 => ?_) (fun c_6 => ?_)
    · refine lv_iconst (v := nI 1) hx hb dX1_move_54 (by decide) ?_
      refine lv_goto (tgt := 59) hx hb dX1_move_55 (by decide) ?_
      refine lv_aload_n hx hb dX1_move_59 rfl (lv_at hl 4 rfl) ?_
      refine lv_iconst (v := nI 2) hx hb dX1_move_60 (by decide) ?_
      refine rd_calld (va_runV (As := [.int (nI 2)]) (rest := [.int (nI 1)]) ⟨hx, hb, hml, hown, hts⟩ (c_X1_latestValue l D k0 kv ko ks km kt kp kb cZ cD cI th mv io sz mk se pv pd op mw hsz 2 (by omega)) (cwV 1 hts gX1_move_X1_latestValue rfl rfl rfl (by decide +kernel) ⟨Nat.le_of_ble_eq_true rfl, Nat.le_of_ble_eq_true rfl⟩) ⟨fun a U g mk q => ⟨q.1, q.2.1, va_K.moved (u := U) (U := U.calling g mk a) (Vm.Alike.refl U.vm) q.2.2⟩, va_recv hK hP (ci := 2) (q0 := 0) rfl rfl, fun U hU hW => ⟨rfl, by rw [hU]; exact hP, va_K.moved hW.alike hK⟩⟩ rfl rfl hl.1 rfl (lv_room (Nat.le_of_ble_eq_true rfl)) dX1_move_61 ⟨Nat.le_of_ble_eq_true rfl, Nat.le_of_ble_eq_true rfl⟩) (fun r_7 hr_7 => ?_)
      subst hr_7
      refine lv_aload_n hx hb dX1_move_64 rfl (lv_at hl 4 rfl) ?_
      refine va_get (D := D) (ci := 2) (v := .ref km) (C := RX1) (T := TX1) (N := 10) hx hb hts hinRX1 hown hK hP 0 rfl rfl 4 (by decide) hf_21 (fun _ h9 => h9) rfl dX1_move_65 ?_
      refine lv_iconst (v := nI 1) hx hb dX1_move_68 (by decide) ?_
      refine kn_dald hx hb hK hP 4 1 rfl rfl (by omega) (by decide) dX1_move_69 ?_
      refine rd_calli (va_runS (As := [.int (b2i true), .double (lw mv sz 2), .double (mk 1)]) (rest := []) ⟨hx, hb, hml, hown, hts⟩ (c_X1_way l true (lw mv sz 2) (mk 1) ) (va_cwS 3 hts gX1_move_X1_way rfl rfl rfl (by decide +kernel) ⟨Nat.le_of_ble_eq_true rfl, Nat.le_of_ble_eq_true rfl⟩) ⟨fun a U g mk q => q, fun U hU hW => ⟨rfl, trivial⟩⟩ rfl rfl hl.1 rfl (lv_room (Nat.le_of_ble_eq_true rfl)) dX1_move_70 ⟨Nat.le_of_ble_eq_true rfl, Nat.le_of_ble_eq_true rfl⟩) (fun r_8 hr_8 => ?_)
      subst hr_8
      refine lv_istore (lv' := [(6, .int (nI (wy true (lw mv sz 2) (mk 1)))), (5, .int (nI (wy (lo io sz 0 || !se 0) (lw mv sz 0) (mk 0)))), (4, .int (nI (wy (lo io sz 3 || !se 5) (lw mv sz 3) (mk 5)))), (3, .int (nI (wy (lo io sz 0 || lo io sz 2) (lw mv sz 0) (lw mv sz 2)))), (2, .int (nI 0)), (0, .ref k0), (1, .int (b2i true))]) hx hb dX1_move_73 hl (by decide) rfl (fun ls hl => ?_)
      refine lv_iload_n hx hb dX1_move_75 rfl (lv_at hl 6 rfl) ?_
      refine kb_eq (tgt := 92) hx hb dX1_move_76 (by decide) (fun h => absurd h (by decide)) (fun _ => ?_)
      refine lv_iload_n hx hb dX1_move_79 rfl (lv_at hl 3 rfl) ?_
      refine lv_iconst (v := nI 4) hx hb dX1_move_80 (by decide) ?_
      refine kn_icmp_eq (tgt := 88) hx hb (Nat.lt_trans (wy_lt _ _ _) (by decide)) (by decide) dX1_move_81 (by decide) (fun c_9 => ?_) (fun c_9 => ?_)
      · refine lv_iconst (v := nI 0) hx hb dX1_move_88 (by decide) ?_
        refine lv_goto (tgt := 103) hx hb dX1_move_89 (by decide) ?_
        refine lv_istore (lv' := [(7, .int (nI 0)), (6, .int (nI (wy true (lw mv sz 2) (mk 1)))), (5, .int (nI (wy (lo io sz 0 || !se 0) (lw mv sz 0) (mk 0)))), (4, .int (nI (wy (lo io sz 3 || !se 5) (lw mv sz 3) (mk 5)))), (3, .int (nI (wy (lo io sz 0 || lo io sz 2) (lw mv sz 0) (lw mv sz 2)))), (2, .int (nI 0)), (0, .ref k0), (1, .int (b2i true))]) hx hb dX1_move_103 hl (by decide) rfl (fun ls hl => ?_)
        refine lv_iload_n hx hb dX1_move_105 rfl (lv_at hl 7 rfl) ?_
        refine kb_eq (tgt := 132) hx hb dX1_move_106 (by decide) (fun h => absurd h (by decide)) (fun _ => ?_)
        refine lv_aload_n hx hb dX1_move_109 rfl (lv_at hl 6 rfl) ?_
        refine va_get (D := D) (ci := 2) (v := .ref kt) (C := RX1) (T := TX1) (N := 10) hx hb hts hinRX1 hown hK hP 0 rfl rfl 5 (by decide) hf_24 (fun _ h9 => h9) rfl dX1_move_110 ?_
        refine lv_iconst (v := nI 5) hx hb dX1_move_113 (by decide) ?_
        refine kn_zald hx hb hK hP 5 0 rfl rfl (by omega) (by decide) dX1_move_114 ?_
        refine kb_eq (tgt := 128) hx hb dX1_move_115 (by decide) (fun c_10 => ?_) (fun c_10 => ?_)
        · refine lv_iconst (v := nI 0) hx hb dX1_move_128 (by decide) ?_
          refine lv_goto (tgt := 143) hx hb dX1_move_129 (by decide) ?_
          refine lv_istore (lv' := [(8, .int (nI 0)), (7, .int (nI 0)), (6, .int (nI (wy true (lw mv sz 2) (mk 1)))), (5, .int (nI (wy (lo io sz 0 || !se 0) (lw mv sz 0) (mk 0)))), (4, .int (nI (wy (lo io sz 3 || !se 5) (lw mv sz 3) (mk 5)))), (3, .int (nI (wy (lo io sz 0 || lo io sz 2) (lw mv sz 0) (lw mv sz 2)))), (2, .int (nI 0)), (0, .ref k0), (1, .int (b2i true))]) hx hb dX1_move_143 hl (by decide) rfl (fun ls hl => ?_)
          refine lv_aload_n hx hb dX1_move_145 rfl (lv_at hl 7 rfl) ?_
          refine lv_iload_n hx hb dX1_move_146 rfl (lv_at hl 6 rfl) ?_
          refine lv_iload hx hb dX1_move_147 (lv_at hl 1 rfl) ?_
          refine lv_iload hx hb dX1_move_149 (lv_at hl 0 rfl) ?_
          have hFc := va_free (wc := WM k0 kv ko ks km kt kp kb cZ cD cI th mv io sz mk se pv pd op mw) hD hS hA [0, 1, 2, 3, 4, 5, 6, 7] rfl
          refine wr_calli (va_runV (As := [.int (b2i false), .int (b2i false), .int (b2i false)]) (rest := []) ⟨hx, hb, hml, hown, hts⟩ (c_X1_throwing l D k0 kv ko ks km kt kp kb cZ cD cI th mv io sz mk se pv pd op mw hsz s.heap.size false false false ) (cwV 3 hts gX1_move_X1_throwing rfl rfl rfl (by decide +kernel) ⟨Nat.le_of_ble_eq_true rfl, Nat.le_of_ble_eq_true rfl⟩) ⟨fun a U g mk q => ⟨q.1, q.2.1, q.2.2.1, va_K.moved (u := U) (U := U.calling g mk a) (Vm.Alike.refl U.vm) q.2.2.2.1, q.2.2.2.2⟩, va_recv hK hP (ci := 2) (q0 := 0) rfl rfl, fun U hU hW => ⟨rfl, by rw [hU], by rw [hU]; exact hP, va_K.moved hW.alike hK, hD.weaken (fun _ _ _ _ => trivial)⟩⟩ rfl rfl hl.1 rfl (lv_room (Nat.le_of_ble_eq_true rfl)) dX1_move_151 ⟨Nat.le_of_ble_eq_true rfl, Nat.le_of_ble_eq_true rfl⟩) hS hFc (fun r_11 H locs hr_11 hP _ _ hS => ?_)
          subst hr_11
          refine kt_i (y := b2i false) rfl ?_
          have hD : va_D A (WM k0 kv ko ks km kt kp kb cZ cD cI (thr false false false) mv io sz mk se pv pd op mw) := va_D_same (ws := WM k0 kv ko ks km kt kp kb cZ cD cI th mv io sz mk se pv pd op mw) rfl hD
          have hP : va_P D vwCl (WM k0 kv ko ks km kt kp kb cZ cD cI (thr false false false) mv io sz mk se pv pd op mw) H := hP
          refine kb_eq (tgt := 159) hx hb dX1_move_154 (by decide) (fun _ => ?_) (fun h => absurd h (by decide))
          refine lv_aload_n hx hb dX1_move_159 rfl (lv_at hl 7 rfl) ?_
          refine lv_iload_n hx hb dX1_move_160 rfl (lv_at hl 8 rfl) ?_
          refine va_put (D := D) (ci := 2) (v := .int (b2i true)) (ty := .boolean) (C := RX1) (T := TX1) (N := 10) hx hb hts hinRX1 tyX1 tyX1_ok nmX1 hown hK hP hD hS 0 rfl rfl 8 (by decide) hf_111 (fun _ h9 => h9) rfl (by decide +kernel) (b2i_nar _) (b2i_fit _) (Nat.le_of_ble_eq_true rfl) dX1_move_161 (fun H locs hP hD hS => ?_)
          have hP : va_P D vwCl (WM k0 kv ko ks km kt kp kb cZ cD cI (thr false false false) mv io sz mk se pv pd true mw) H := hP
          have hD : va_D A (WM k0 kv ko ks km kt kp kb cZ cD cI (thr false false false) mv io sz mk se pv pd true mw) := hD
          refine lv_aload_n hx hb dX1_move_164 rfl (lv_at hl 7 rfl) ?_
          refine lv_dup hx hb dX1_move_165 rfl ?_
          refine va_get (D := D) (ci := 2) (v := .int mw) (C := RX1) (T := TX1) (N := 10) hx hb hts hinRX1 hown hK hP 0 rfl rfl 9 (by decide) hf_115 (fun _ h9 => h9) rfl dX1_move_166 ?_
          refine lv_iconst (v := nI 1) hx hb dX1_move_169 (by decide) ?_
          refine lv_iadd hx hb dX1_move_170 ?_
          refine va_put (D := D) (ci := 2) (v := .int (mw + (nI 1))) (ty := .int) (C := RX1) (T := TX1) (N := 10) hx hb hts hinRX1 tyX1 tyX1_ok nmX1 hown hK hP hD hS 0 rfl rfl 9 (by decide) hf_115 (fun _ h9 => h9) rfl (by decide +kernel) rfl rfl (Nat.le_of_ble_eq_true rfl) dX1_move_171 (fun H locs hP hD hS => ?_)
          have hP : va_P D vwCl (WM k0 kv ko ks km kt kp kb cZ cD cI (thr false false false) mv io sz mk se pv pd true (mw + (nI 1))) H := hP
          have hD : va_D A (WM k0 kv ko ks km kt kp kb cZ cD cI (thr false false false) mv io sz mk se pv pd true (mw + (nI 1))) := hD
          refine lv_aload_n hx hb dX1_move_174 rfl (lv_at hl 7 rfl) ?_
          refine va_get (D := D) (ci := 2) (v := .int (mw + (nI 1))) (C := RX1) (T := TX1) (N := 10) hx hb hts hinRX1 hown hK hP 0 rfl rfl 9 (by decide) hf_115 (fun _ h9 => h9) rfl dX1_move_175 ?_
          refine W.widen (k := 0) (n := 0) (Nat.le_of_ble_eq_true rfl) (Nat.le_of_ble_eq_true rfl) ?_
          exact W.iret (v := mw + (nI 1)) hx hb hr (fun t9 ht9 hW9 => ⟨⟨_, rfl, by rw [tMo_of (A := false) (B := false) (C := false) (bnf c_1) (decide_eq_false (fun h => h c_9)) (and_f c_10)]; rfl, by rw [ht9, tMo_of (A := false) (B := false) (C := false) (bnf c_1) (decide_eq_false (fun h => h c_9)) (and_f c_10)]; exact hP⟩, hS.F ht9⟩) hS.2.2 dX1_move_178
        · refine lv_iload hx hb dX1_move_118 (lv_at hl 3 rfl) ?_
          refine lv_iconst (v := nI 1) hx hb dX1_move_120 (by decide) ?_
          refine kn_icmp_eq (tgt := 128) hx hb (Nat.lt_trans (wy_lt _ _ _) (by decide)) (by decide) dX1_move_121 (by decide) (fun c_12 => ?_) (fun c_12 => ?_)
          · refine lv_iconst (v := nI 0) hx hb dX1_move_128 (by decide) ?_
            refine lv_goto (tgt := 143) hx hb dX1_move_129 (by decide) ?_
            refine lv_istore (lv' := [(8, .int (nI 0)), (7, .int (nI 0)), (6, .int (nI (wy true (lw mv sz 2) (mk 1)))), (5, .int (nI (wy (lo io sz 0 || !se 0) (lw mv sz 0) (mk 0)))), (4, .int (nI (wy (lo io sz 3 || !se 5) (lw mv sz 3) (mk 5)))), (3, .int (nI (wy (lo io sz 0 || lo io sz 2) (lw mv sz 0) (lw mv sz 2)))), (2, .int (nI 0)), (0, .ref k0), (1, .int (b2i true))]) hx hb dX1_move_143 hl (by decide) rfl (fun ls hl => ?_)
            refine lv_aload_n hx hb dX1_move_145 rfl (lv_at hl 7 rfl) ?_
            refine lv_iload_n hx hb dX1_move_146 rfl (lv_at hl 6 rfl) ?_
            refine lv_iload hx hb dX1_move_147 (lv_at hl 1 rfl) ?_
            refine lv_iload hx hb dX1_move_149 (lv_at hl 0 rfl) ?_
            have hFc := va_free (wc := WM k0 kv ko ks km kt kp kb cZ cD cI th mv io sz mk se pv pd op mw) hD hS hA [0, 1, 2, 3, 4, 5, 6, 7] rfl
            refine wr_calli (va_runV (As := [.int (b2i false), .int (b2i false), .int (b2i false)]) (rest := []) ⟨hx, hb, hml, hown, hts⟩ (c_X1_throwing l D k0 kv ko ks km kt kp kb cZ cD cI th mv io sz mk se pv pd op mw hsz s.heap.size false false false ) (cwV 3 hts gX1_move_X1_throwing rfl rfl rfl (by decide +kernel) ⟨Nat.le_of_ble_eq_true rfl, Nat.le_of_ble_eq_true rfl⟩) ⟨fun a U g mk q => ⟨q.1, q.2.1, q.2.2.1, va_K.moved (u := U) (U := U.calling g mk a) (Vm.Alike.refl U.vm) q.2.2.2.1, q.2.2.2.2⟩, va_recv hK hP (ci := 2) (q0 := 0) rfl rfl, fun U hU hW => ⟨rfl, by rw [hU], by rw [hU]; exact hP, va_K.moved hW.alike hK, hD.weaken (fun _ _ _ _ => trivial)⟩⟩ rfl rfl hl.1 rfl (lv_room (Nat.le_of_ble_eq_true rfl)) dX1_move_151 ⟨Nat.le_of_ble_eq_true rfl, Nat.le_of_ble_eq_true rfl⟩) hS hFc (fun r_13 H locs hr_13 hP _ _ hS => ?_)
            subst hr_13
            refine kt_i (y := b2i false) rfl ?_
            have hD : va_D A (WM k0 kv ko ks km kt kp kb cZ cD cI (thr false false false) mv io sz mk se pv pd op mw) := va_D_same (ws := WM k0 kv ko ks km kt kp kb cZ cD cI th mv io sz mk se pv pd op mw) rfl hD
            have hP : va_P D vwCl (WM k0 kv ko ks km kt kp kb cZ cD cI (thr false false false) mv io sz mk se pv pd op mw) H := hP
            refine kb_eq (tgt := 159) hx hb dX1_move_154 (by decide) (fun _ => ?_) (fun h => absurd h (by decide))
            refine lv_aload_n hx hb dX1_move_159 rfl (lv_at hl 7 rfl) ?_
            refine lv_iload_n hx hb dX1_move_160 rfl (lv_at hl 8 rfl) ?_
            refine va_put (D := D) (ci := 2) (v := .int (b2i true)) (ty := .boolean) (C := RX1) (T := TX1) (N := 10) hx hb hts hinRX1 tyX1 tyX1_ok nmX1 hown hK hP hD hS 0 rfl rfl 8 (by decide) hf_111 (fun _ h9 => h9) rfl (by decide +kernel) (b2i_nar _) (b2i_fit _) (Nat.le_of_ble_eq_true rfl) dX1_move_161 (fun H locs hP hD hS => ?_)
            have hP : va_P D vwCl (WM k0 kv ko ks km kt kp kb cZ cD cI (thr false false false) mv io sz mk se pv pd true mw) H := hP
            have hD : va_D A (WM k0 kv ko ks km kt kp kb cZ cD cI (thr false false false) mv io sz mk se pv pd true mw) := hD
            refine lv_aload_n hx hb dX1_move_164 rfl (lv_at hl 7 rfl) ?_
            refine lv_dup hx hb dX1_move_165 rfl ?_
            refine va_get (D := D) (ci := 2) (v := .int mw) (C := RX1) (T := TX1) (N := 10) hx hb hts hinRX1 hown hK hP 0 rfl rfl 9 (by decide) hf_115 (fun _ h9 => h9) rfl dX1_move_166 ?_
            refine lv_iconst (v := nI 1) hx hb dX1_move_169 (by decide) ?_
            refine lv_iadd hx hb dX1_move_170 ?_
            refine va_put (D := D) (ci := 2) (v := .int (mw + (nI 1))) (ty := .int) (C := RX1) (T := TX1) (N := 10) hx hb hts hinRX1 tyX1 tyX1_ok nmX1 hown hK hP hD hS 0 rfl rfl 9 (by decide) hf_115 (fun _ h9 => h9) rfl (by decide +kernel) rfl rfl (Nat.le_of_ble_eq_true rfl) dX1_move_171 (fun H locs hP hD hS => ?_)
            have hP : va_P D vwCl (WM k0 kv ko ks km kt kp kb cZ cD cI (thr false false false) mv io sz mk se pv pd true (mw + (nI 1))) H := hP
            have hD : va_D A (WM k0 kv ko ks km kt kp kb cZ cD cI (thr false false false) mv io sz mk se pv pd true (mw + (nI 1))) := hD
            refine lv_aload_n hx hb dX1_move_174 rfl (lv_at hl 7 rfl) ?_
            refine va_get (D := D) (ci := 2) (v := .int (mw + (nI 1))) (C := RX1) (T := TX1) (N := 10) hx hb hts hinRX1 hown hK hP 0 rfl rfl 9 (by decide) hf_115 (fun _ h9 => h9) rfl dX1_move_175 ?_
            refine W.widen (k := 0) (n := 0) (Nat.le_of_ble_eq_true rfl) (Nat.le_of_ble_eq_true rfl) ?_
            exact W.iret (v := mw + (nI 1)) hx hb hr (fun t9 ht9 hW9 => ⟨⟨_, rfl, by rw [tMo_of (A := false) (B := false) (C := false) (bnf c_1) (decide_eq_false (fun h => h c_9)) (and_t c_10 (decide_eq_false (fun h => h c_12)))]; rfl, by rw [ht9, tMo_of (A := false) (B := false) (C := false) (bnf c_1) (decide_eq_false (fun h => h c_9)) (and_t c_10 (decide_eq_false (fun h => h c_12)))]; exact hP⟩, hS.F ht9⟩) hS.2.2 dX1_move_178
          · refine lv_iconst (v := nI 1) hx hb dX1_move_124 (by decide) ?_
            refine lv_goto (tgt := 143) hx hb dX1_move_125 (by decide) ?_
            refine lv_istore (lv' := [(8, .int (nI 1)), (7, .int (nI 0)), (6, .int (nI (wy true (lw mv sz 2) (mk 1)))), (5, .int (nI (wy (lo io sz 0 || !se 0) (lw mv sz 0) (mk 0)))), (4, .int (nI (wy (lo io sz 3 || !se 5) (lw mv sz 3) (mk 5)))), (3, .int (nI (wy (lo io sz 0 || lo io sz 2) (lw mv sz 0) (lw mv sz 2)))), (2, .int (nI 0)), (0, .ref k0), (1, .int (b2i true))]) hx hb dX1_move_143 hl (by decide) rfl (fun ls hl => ?_)
            refine lv_aload_n hx hb dX1_move_145 rfl (lv_at hl 7 rfl) ?_
            refine lv_iload_n hx hb dX1_move_146 rfl (lv_at hl 6 rfl) ?_
            refine lv_iload hx hb dX1_move_147 (lv_at hl 1 rfl) ?_
            refine lv_iload hx hb dX1_move_149 (lv_at hl 0 rfl) ?_
            have hFc := va_free (wc := WM k0 kv ko ks km kt kp kb cZ cD cI th mv io sz mk se pv pd op mw) hD hS hA [0, 1, 2, 3, 4, 5, 6, 7] rfl
            refine wr_calli (va_runV (As := [.int (b2i false), .int (b2i false), .int (b2i true)]) (rest := []) ⟨hx, hb, hml, hown, hts⟩ (c_X1_throwing l D k0 kv ko ks km kt kp kb cZ cD cI th mv io sz mk se pv pd op mw hsz s.heap.size false false true ) (cwV 3 hts gX1_move_X1_throwing rfl rfl rfl (by decide +kernel) ⟨Nat.le_of_ble_eq_true rfl, Nat.le_of_ble_eq_true rfl⟩) ⟨fun a U g mk q => ⟨q.1, q.2.1, q.2.2.1, va_K.moved (u := U) (U := U.calling g mk a) (Vm.Alike.refl U.vm) q.2.2.2.1, q.2.2.2.2⟩, va_recv hK hP (ci := 2) (q0 := 0) rfl rfl, fun U hU hW => ⟨rfl, by rw [hU], by rw [hU]; exact hP, va_K.moved hW.alike hK, hD.weaken (fun _ _ _ _ => trivial)⟩⟩ rfl rfl hl.1 rfl (lv_room (Nat.le_of_ble_eq_true rfl)) dX1_move_151 ⟨Nat.le_of_ble_eq_true rfl, Nat.le_of_ble_eq_true rfl⟩) hS hFc (fun r_14 H locs hr_14 hP _ _ hS => ?_)
            subst hr_14
            refine kt_i (y := b2i true) rfl ?_
            have hD : va_D A (WM k0 kv ko ks km kt kp kb cZ cD cI (thr false false true) mv io sz mk se pv pd op mw) := va_D_same (ws := WM k0 kv ko ks km kt kp kb cZ cD cI th mv io sz mk se pv pd op mw) rfl hD
            have hP : va_P D vwCl (WM k0 kv ko ks km kt kp kb cZ cD cI (thr false false true) mv io sz mk se pv pd op mw) H := hP
            refine kb_eq (tgt := 159) hx hb dX1_move_154 (by decide) (fun h => absurd h (by decide)) (fun _ => ?_)
            refine lv_iconst (v := nI 0) hx hb dX1_move_157 (by decide) ?_
            refine W.widen (k := 0) (n := 0) (Nat.le_of_ble_eq_true rfl) (Nat.le_of_ble_eq_true rfl) ?_
            exact W.iret (v := nI 0) hx hb hr (fun t9 ht9 hW9 => ⟨⟨_, rfl, by rw [tMo_of (A := false) (B := false) (C := true) (bnf c_1) (decide_eq_false (fun h => h c_9)) (and_t c_10 (decide_eq_true c_12))]; rfl, by rw [ht9, tMo_of (A := false) (B := false) (C := true) (bnf c_1) (decide_eq_false (fun h => h c_9)) (and_t c_10 (decide_eq_true c_12))]; exact hP⟩, hS.F ht9⟩) hS.2.2 dX1_move_158
      · refine lv_iconst (v := nI 1) hx hb dX1_move_84 (by decide) ?_
        refine lv_goto (tgt := 103) hx hb dX1_move_85 (by decide) ?_
        refine lv_istore (lv' := [(7, .int (nI 1)), (6, .int (nI (wy true (lw mv sz 2) (mk 1)))), (5, .int (nI (wy (lo io sz 0 || !se 0) (lw mv sz 0) (mk 0)))), (4, .int (nI (wy (lo io sz 3 || !se 5) (lw mv sz 3) (mk 5)))), (3, .int (nI (wy (lo io sz 0 || lo io sz 2) (lw mv sz 0) (lw mv sz 2)))), (2, .int (nI 0)), (0, .ref k0), (1, .int (b2i true))]) hx hb dX1_move_103 hl (by decide) rfl (fun ls hl => ?_)
        refine lv_iload_n hx hb dX1_move_105 rfl (lv_at hl 7 rfl) ?_
        refine kb_eq (tgt := 132) hx hb dX1_move_106 (by decide) (fun h => absurd h (by decide)) (fun _ => ?_)
        refine lv_aload_n hx hb dX1_move_109 rfl (lv_at hl 6 rfl) ?_
        refine va_get (D := D) (ci := 2) (v := .ref kt) (C := RX1) (T := TX1) (N := 10) hx hb hts hinRX1 hown hK hP 0 rfl rfl 5 (by decide) hf_24 (fun _ h9 => h9) rfl dX1_move_110 ?_
        refine lv_iconst (v := nI 5) hx hb dX1_move_113 (by decide) ?_
        refine kn_zald hx hb hK hP 5 0 rfl rfl (by omega) (by decide) dX1_move_114 ?_
        refine kb_eq (tgt := 128) hx hb dX1_move_115 (by decide) (fun c_15 => ?_) (fun c_15 => ?_)
        · refine lv_iconst (v := nI 0) hx hb dX1_move_128 (by decide) ?_
          refine lv_goto (tgt := 143) hx hb dX1_move_129 (by decide) ?_
          refine lv_istore (lv' := [(8, .int (nI 0)), (7, .int (nI 1)), (6, .int (nI (wy true (lw mv sz 2) (mk 1)))), (5, .int (nI (wy (lo io sz 0 || !se 0) (lw mv sz 0) (mk 0)))), (4, .int (nI (wy (lo io sz 3 || !se 5) (lw mv sz 3) (mk 5)))), (3, .int (nI (wy (lo io sz 0 || lo io sz 2) (lw mv sz 0) (lw mv sz 2)))), (2, .int (nI 0)), (0, .ref k0), (1, .int (b2i true))]) hx hb dX1_move_143 hl (by decide) rfl (fun ls hl => ?_)
          refine lv_aload_n hx hb dX1_move_145 rfl (lv_at hl 7 rfl) ?_
          refine lv_iload_n hx hb dX1_move_146 rfl (lv_at hl 6 rfl) ?_
          refine lv_iload hx hb dX1_move_147 (lv_at hl 1 rfl) ?_
          refine lv_iload hx hb dX1_move_149 (lv_at hl 0 rfl) ?_
          have hFc := va_free (wc := WM k0 kv ko ks km kt kp kb cZ cD cI th mv io sz mk se pv pd op mw) hD hS hA [0, 1, 2, 3, 4, 5, 6, 7] rfl
          refine wr_calli (va_runV (As := [.int (b2i false), .int (b2i true), .int (b2i false)]) (rest := []) ⟨hx, hb, hml, hown, hts⟩ (c_X1_throwing l D k0 kv ko ks km kt kp kb cZ cD cI th mv io sz mk se pv pd op mw hsz s.heap.size false true false ) (cwV 3 hts gX1_move_X1_throwing rfl rfl rfl (by decide +kernel) ⟨Nat.le_of_ble_eq_true rfl, Nat.le_of_ble_eq_true rfl⟩) ⟨fun a U g mk q => ⟨q.1, q.2.1, q.2.2.1, va_K.moved (u := U) (U := U.calling g mk a) (Vm.Alike.refl U.vm) q.2.2.2.1, q.2.2.2.2⟩, va_recv hK hP (ci := 2) (q0 := 0) rfl rfl, fun U hU hW => ⟨rfl, by rw [hU], by rw [hU]; exact hP, va_K.moved hW.alike hK, hD.weaken (fun _ _ _ _ => trivial)⟩⟩ rfl rfl hl.1 rfl (lv_room (Nat.le_of_ble_eq_true rfl)) dX1_move_151 ⟨Nat.le_of_ble_eq_true rfl, Nat.le_of_ble_eq_true rfl⟩) hS hFc (fun r_16 H locs hr_16 hP _ _ hS => ?_)
          subst hr_16
          refine kt_i (y := b2i true) rfl ?_
          have hD : va_D A (WM k0 kv ko ks km kt kp kb cZ cD cI (thr false true false) mv io sz mk se pv pd op mw) := va_D_same (ws := WM k0 kv ko ks km kt kp kb cZ cD cI th mv io sz mk se pv pd op mw) rfl hD
          have hP : va_P D vwCl (WM k0 kv ko ks km kt kp kb cZ cD cI (thr false true false) mv io sz mk se pv pd op mw) H := hP
          refine kb_eq (tgt := 159) hx hb dX1_move_154 (by decide) (fun h => absurd h (by decide)) (fun _ => ?_)
          refine lv_iconst (v := nI 0) hx hb dX1_move_157 (by decide) ?_
          refine W.widen (k := 0) (n := 0) (Nat.le_of_ble_eq_true rfl) (Nat.le_of_ble_eq_true rfl) ?_
          exact W.iret (v := nI 0) hx hb hr (fun t9 ht9 hW9 => ⟨⟨_, rfl, by rw [tMo_of (A := false) (B := true) (C := false) (bnf c_1) (decide_eq_true c_9) (and_f c_15)]; rfl, by rw [ht9, tMo_of (A := false) (B := true) (C := false) (bnf c_1) (decide_eq_true c_9) (and_f c_15)]; exact hP⟩, hS.F ht9⟩) hS.2.2 dX1_move_158
        · refine lv_iload hx hb dX1_move_118 (lv_at hl 3 rfl) ?_
          refine lv_iconst (v := nI 1) hx hb dX1_move_120 (by decide) ?_
          refine kn_icmp_eq (tgt := 128) hx hb (Nat.lt_trans (wy_lt _ _ _) (by decide)) (by decide) dX1_move_121 (by decide) (fun c_17 => ?_) (fun c_17 => ?_)
          · refine lv_iconst (v := nI 0) hx hb dX1_move_128 (by decide) ?_
            refine lv_goto (tgt := 143) hx hb dX1_move_129 (by decide) ?_
            refine lv_istore (lv' := [(8, .int (nI 0)), (7, .int (nI 1)), (6, .int (nI (wy true (lw mv sz 2) (mk 1)))), (5, .int (nI (wy (lo io sz 0 || !se 0) (lw mv sz 0) (mk 0)))), (4, .int (nI (wy (lo io sz 3 || !se 5) (lw mv sz 3) (mk 5)))), (3, .int (nI (wy (lo io sz 0 || lo io sz 2) (lw mv sz 0) (lw mv sz 2)))), (2, .int (nI 0)), (0, .ref k0), (1, .int (b2i true))]) hx hb dX1_move_143 hl (by decide) rfl (fun ls hl => ?_)
            refine lv_aload_n hx hb dX1_move_145 rfl (lv_at hl 7 rfl) ?_
            refine lv_iload_n hx hb dX1_move_146 rfl (lv_at hl 6 rfl) ?_
            refine lv_iload hx hb dX1_move_147 (lv_at hl 1 rfl) ?_
            refine lv_iload hx hb dX1_move_149 (lv_at hl 0 rfl) ?_
            have hFc := va_free (wc := WM k0 kv ko ks km kt kp kb cZ cD cI th mv io sz mk se pv pd op mw) hD hS hA [0, 1, 2, 3, 4, 5, 6, 7] rfl
            refine wr_calli (va_runV (As := [.int (b2i false), .int (b2i true), .int (b2i false)]) (rest := []) ⟨hx, hb, hml, hown, hts⟩ (c_X1_throwing l D k0 kv ko ks km kt kp kb cZ cD cI th mv io sz mk se pv pd op mw hsz s.heap.size false true false ) (cwV 3 hts gX1_move_X1_throwing rfl rfl rfl (by decide +kernel) ⟨Nat.le_of_ble_eq_true rfl, Nat.le_of_ble_eq_true rfl⟩) ⟨fun a U g mk q => ⟨q.1, q.2.1, q.2.2.1, va_K.moved (u := U) (U := U.calling g mk a) (Vm.Alike.refl U.vm) q.2.2.2.1, q.2.2.2.2⟩, va_recv hK hP (ci := 2) (q0 := 0) rfl rfl, fun U hU hW => ⟨rfl, by rw [hU], by rw [hU]; exact hP, va_K.moved hW.alike hK, hD.weaken (fun _ _ _ _ => trivial)⟩⟩ rfl rfl hl.1 rfl (lv_room (Nat.le_of_ble_eq_true rfl)) dX1_move_151 ⟨Nat.le_of_ble_eq_true rfl, Nat.le_of_ble_eq_true rfl⟩) hS hFc (fun r_18 H locs hr_18 hP _ _ hS => ?_)
            subst hr_18
            refine kt_i (y := b2i true) rfl ?_
            have hD : va_D A (WM k0 kv ko ks km kt kp kb cZ cD cI (thr false true false) mv io sz mk se pv pd op mw) := va_D_same (ws := WM k0 kv ko ks km kt kp kb cZ cD cI th mv io sz mk se pv pd op mw) rfl hD
            have hP : va_P D vwCl (WM k0 kv ko ks km kt kp kb cZ cD cI (thr false true false) mv io sz mk se pv pd op mw) H := hP
            refine kb_eq (tgt := 159) hx hb dX1_move_154 (by decide) (fun h => absurd h (by decide)) (fun _ => ?_)
            refine lv_iconst (v := nI 0) hx hb dX1_move_157 (by decide) ?_
            refine W.widen (k := 0) (n := 0) (Nat.le_of_ble_eq_true rfl) (Nat.le_of_ble_eq_true rfl) ?_
            exact W.iret (v := nI 0) hx hb hr (fun t9 ht9 hW9 => ⟨⟨_, rfl, by rw [tMo_of (A := false) (B := true) (C := false) (bnf c_1) (decide_eq_true c_9) (and_t c_15 (decide_eq_false (fun h => h c_17)))]; rfl, by rw [ht9, tMo_of (A := false) (B := true) (C := false) (bnf c_1) (decide_eq_true c_9) (and_t c_15 (decide_eq_false (fun h => h c_17)))]; exact hP⟩, hS.F ht9⟩) hS.2.2 dX1_move_158
          · refine lv_iconst (v := nI 1) hx hb dX1_move_124 (by decide) ?_
            refine lv_goto (tgt := 143) hx hb dX1_move_125 (by decide) ?_
            refine lv_istore (lv' := [(8, .int (nI 1)), (7, .int (nI 1)), (6, .int (nI (wy true (lw mv sz 2) (mk 1)))), (5, .int (nI (wy (lo io sz 0 || !se 0) (lw mv sz 0) (mk 0)))), (4, .int (nI (wy (lo io sz 3 || !se 5) (lw mv sz 3) (mk 5)))), (3, .int (nI (wy (lo io sz 0 || lo io sz 2) (lw mv sz 0) (lw mv sz 2)))), (2, .int (nI 0)), (0, .ref k0), (1, .int (b2i true))]) hx hb dX1_move_143 hl (by decide) rfl (fun ls hl => ?_)
            refine lv_aload_n hx hb dX1_move_145 rfl (lv_at hl 7 rfl) ?_
            refine lv_iload_n hx hb dX1_move_146 rfl (lv_at hl 6 rfl) ?_
            refine lv_iload hx hb dX1_move_147 (lv_at hl 1 rfl) ?_
            refine lv_iload hx hb dX1_move_149 (lv_at hl 0 rfl) ?_
            have hFc := va_free (wc := WM k0 kv ko ks km kt kp kb cZ cD cI th mv io sz mk se pv pd op mw) hD hS hA [0, 1, 2, 3, 4, 5, 6, 7] rfl
            refine wr_calli (va_runV (As := [.int (b2i false), .int (b2i true), .int (b2i true)]) (rest := []) ⟨hx, hb, hml, hown, hts⟩ (c_X1_throwing l D k0 kv ko ks km kt kp kb cZ cD cI th mv io sz mk se pv pd op mw hsz s.heap.size false true true ) (cwV 3 hts gX1_move_X1_throwing rfl rfl rfl (by decide +kernel) ⟨Nat.le_of_ble_eq_true rfl, Nat.le_of_ble_eq_true rfl⟩) ⟨fun a U g mk q => ⟨q.1, q.2.1, q.2.2.1, va_K.moved (u := U) (U := U.calling g mk a) (Vm.Alike.refl U.vm) q.2.2.2.1, q.2.2.2.2⟩, va_recv hK hP (ci := 2) (q0 := 0) rfl rfl, fun U hU hW => ⟨rfl, by rw [hU], by rw [hU]; exact hP, va_K.moved hW.alike hK, hD.weaken (fun _ _ _ _ => trivial)⟩⟩ rfl rfl hl.1 rfl (lv_room (Nat.le_of_ble_eq_true rfl)) dX1_move_151 ⟨Nat.le_of_ble_eq_true rfl, Nat.le_of_ble_eq_true rfl⟩) hS hFc (fun r_19 H locs hr_19 hP _ _ hS => ?_)
            subst hr_19
            refine kt_i (y := b2i true) rfl ?_
            have hD : va_D A (WM k0 kv ko ks km kt kp kb cZ cD cI (thr false true true) mv io sz mk se pv pd op mw) := va_D_same (ws := WM k0 kv ko ks km kt kp kb cZ cD cI th mv io sz mk se pv pd op mw) rfl hD
            have hP : va_P D vwCl (WM k0 kv ko ks km kt kp kb cZ cD cI (thr false true true) mv io sz mk se pv pd op mw) H := hP
            refine kb_eq (tgt := 159) hx hb dX1_move_154 (by decide) (fun h => absurd h (by decide)) (fun _ => ?_)
            refine lv_iconst (v := nI 0) hx hb dX1_move_157 (by decide) ?_
            refine W.widen (k := 0) (n := 0) (Nat.le_of_ble_eq_true rfl) (Nat.le_of_ble_eq_true rfl) ?_
            exact W.iret (v := nI 0) hx hb hr (fun t9 ht9 hW9 => ⟨⟨_, rfl, by rw [tMo_of (A := false) (B := true) (C := true) (bnf c_1) (decide_eq_true c_9) (and_t c_15 (decide_eq_true c_17))]; rfl, by rw [ht9, tMo_of (A := false) (B := true) (C := true) (bnf c_1) (decide_eq_true c_9) (and_t c_15 (decide_eq_true c_17))]; exact hP⟩, hS.F ht9⟩) hS.2.2 dX1_move_158
    · refine lv_aload_n hx hb dX1_move_45 rfl (lv_at hl 4 rfl) ?_
      refine va_get (D := D) (ci := 2) (v := .ref kt) (C := RX1) (T := TX1) (N := 10) hx hb hts hinRX1 hown hK hP 0 rfl rfl 5 (by decide) hf_24 (fun _ h9 => h9) rfl dX1_move_46 ?_
      refine lv_iconst (v := nI 1) hx hb dX1_move_49 (by decide) ?_
      refine kn_zald hx hb hK hP 5 0 rfl rfl (by omega) (by decide) dX1_move_50 ?_
      refine kb_ne (tgt := 58) hx hb dX1_move_51 (by decide) (fun c_20 => ?_) (fun c_20 => ?_)
      · refine lv_iconst (v := nI 0) hx hb dX1_move_58 (by decide) ?_
        refine lv_aload_n hx hb dX1_move_59 rfl (lv_at hl 4 rfl) ?_
        refine lv_iconst (v := nI 2) hx hb dX1_move_60 (by decide) ?_
        refine rd_calld (va_runV (As := [.int (nI 2)]) (rest := [.int (nI 0)]) ⟨hx, hb, hml, hown, hts⟩ (c_X1_latestValue l D k0 kv ko ks km kt kp kb cZ cD cI th mv io sz mk se pv pd op mw hsz 2 (by omega)) (cwV 1 hts gX1_move_X1_latestValue rfl rfl rfl (by decide +kernel) ⟨Nat.le_of_ble_eq_true rfl, Nat.le_of_ble_eq_true rfl⟩) ⟨fun a U g mk q => ⟨q.1, q.2.1, va_K.moved (u := U) (U := U.calling g mk a) (Vm.Alike.refl U.vm) q.2.2⟩, va_recv hK hP (ci := 2) (q0 := 0) rfl rfl, fun U hU hW => ⟨rfl, by rw [hU]; exact hP, va_K.moved hW.alike hK⟩⟩ rfl rfl hl.1 rfl (lv_room (Nat.le_of_ble_eq_true rfl)) dX1_move_61 ⟨Nat.le_of_ble_eq_true rfl, Nat.le_of_ble_eq_true rfl⟩) (fun r_21 hr_21 => ?_)
        subst hr_21
        refine lv_aload_n hx hb dX1_move_64 rfl (lv_at hl 4 rfl) ?_
        refine va_get (D := D) (ci := 2) (v := .ref km) (C := RX1) (T := TX1) (N := 10) hx hb hts hinRX1 hown hK hP 0 rfl rfl 4 (by decide) hf_21 (fun _ h9 => h9) rfl dX1_move_65 ?_
        refine lv_iconst (v := nI 1) hx hb dX1_move_68 (by decide) ?_
        refine kn_dald hx hb hK hP 4 1 rfl rfl (by omega) (by decide) dX1_move_69 ?_
        refine rd_calli (va_runS (As := [.int (b2i false), .double (lw mv sz 2), .double (mk 1)]) (rest := []) ⟨hx, hb, hml, hown, hts⟩ (c_X1_way l false (lw mv sz 2) (mk 1) ) (va_cwS 3 hts gX1_move_X1_way rfl rfl rfl (by decide +kernel) ⟨Nat.le_of_ble_eq_true rfl, Nat.le_of_ble_eq_true rfl⟩) ⟨fun a U g mk q => q, fun U hU hW => ⟨rfl, trivial⟩⟩ rfl rfl hl.1 rfl (lv_room (Nat.le_of_ble_eq_true rfl)) dX1_move_70 ⟨Nat.le_of_ble_eq_true rfl, Nat.le_of_ble_eq_true rfl⟩) (fun r_22 hr_22 => ?_)
        subst hr_22
        refine lv_istore (lv' := [(6, .int (nI (wy false (lw mv sz 2) (mk 1)))), (5, .int (nI (wy (lo io sz 0 || !se 0) (lw mv sz 0) (mk 0)))), (4, .int (nI (wy (lo io sz 3 || !se 5) (lw mv sz 3) (mk 5)))), (3, .int (nI (wy (lo io sz 0 || lo io sz 2) (lw mv sz 0) (lw mv sz 2)))), (2, .int (nI 0)), (0, .ref k0), (1, .int (b2i true))]) hx hb dX1_move_73 hl (by decide) rfl (fun ls hl => ?_)
        refine lv_iload_n hx hb dX1_move_75 rfl (lv_at hl 6 rfl) ?_
        refine kb_eq (tgt := 92) hx hb dX1_move_76 (by decide) (fun h => absurd h (by decide)) (fun _ => ?_)
        refine lv_iload_n hx hb dX1_move_79 rfl (lv_at hl 3 rfl) ?_
        refine lv_iconst (v := nI 4) hx hb dX1_move_80 (by decide) ?_
        refine kn_icmp_eq (tgt := 88) hx hb (Nat.lt_trans (wy_lt _ _ _) (by decide)) (by decide) dX1_move_81 (by decide) (fun c_23 => ?_) (fun c_23 => ?_)
        · refine lv_iconst (v := nI 0) hx hb dX1_move_88 (by decide) ?_
          refine lv_goto (tgt := 103) hx hb dX1_move_89 (by decide) ?_
          refine lv_istore (lv' := [(7, .int (nI 0)), (6, .int (nI (wy false (lw mv sz 2) (mk 1)))), (5, .int (nI (wy (lo io sz 0 || !se 0) (lw mv sz 0) (mk 0)))), (4, .int (nI (wy (lo io sz 3 || !se 5) (lw mv sz 3) (mk 5)))), (3, .int (nI (wy (lo io sz 0 || lo io sz 2) (lw mv sz 0) (lw mv sz 2)))), (2, .int (nI 0)), (0, .ref k0), (1, .int (b2i true))]) hx hb dX1_move_103 hl (by decide) rfl (fun ls hl => ?_)
          refine lv_iload_n hx hb dX1_move_105 rfl (lv_at hl 7 rfl) ?_
          refine kb_eq (tgt := 132) hx hb dX1_move_106 (by decide) (fun h => absurd h (by decide)) (fun _ => ?_)
          refine lv_aload_n hx hb dX1_move_109 rfl (lv_at hl 6 rfl) ?_
          refine va_get (D := D) (ci := 2) (v := .ref kt) (C := RX1) (T := TX1) (N := 10) hx hb hts hinRX1 hown hK hP 0 rfl rfl 5 (by decide) hf_24 (fun _ h9 => h9) rfl dX1_move_110 ?_
          refine lv_iconst (v := nI 5) hx hb dX1_move_113 (by decide) ?_
          refine kn_zald hx hb hK hP 5 0 rfl rfl (by omega) (by decide) dX1_move_114 ?_
          refine kb_eq (tgt := 128) hx hb dX1_move_115 (by decide) (fun c_24 => ?_) (fun c_24 => ?_)
          · refine lv_iconst (v := nI 0) hx hb dX1_move_128 (by decide) ?_
            refine lv_goto (tgt := 143) hx hb dX1_move_129 (by decide) ?_
            refine lv_istore (lv' := [(8, .int (nI 0)), (7, .int (nI 0)), (6, .int (nI (wy false (lw mv sz 2) (mk 1)))), (5, .int (nI (wy (lo io sz 0 || !se 0) (lw mv sz 0) (mk 0)))), (4, .int (nI (wy (lo io sz 3 || !se 5) (lw mv sz 3) (mk 5)))), (3, .int (nI (wy (lo io sz 0 || lo io sz 2) (lw mv sz 0) (lw mv sz 2)))), (2, .int (nI 0)), (0, .ref k0), (1, .int (b2i true))]) hx hb dX1_move_143 hl (by decide) rfl (fun ls hl => ?_)
            refine lv_aload_n hx hb dX1_move_145 rfl (lv_at hl 7 rfl) ?_
            refine lv_iload_n hx hb dX1_move_146 rfl (lv_at hl 6 rfl) ?_
            refine lv_iload hx hb dX1_move_147 (lv_at hl 1 rfl) ?_
            refine lv_iload hx hb dX1_move_149 (lv_at hl 0 rfl) ?_
            have hFc := va_free (wc := WM k0 kv ko ks km kt kp kb cZ cD cI th mv io sz mk se pv pd op mw) hD hS hA [0, 1, 2, 3, 4, 5, 6, 7] rfl
            refine wr_calli (va_runV (As := [.int (b2i false), .int (b2i false), .int (b2i false)]) (rest := []) ⟨hx, hb, hml, hown, hts⟩ (c_X1_throwing l D k0 kv ko ks km kt kp kb cZ cD cI th mv io sz mk se pv pd op mw hsz s.heap.size false false false ) (cwV 3 hts gX1_move_X1_throwing rfl rfl rfl (by decide +kernel) ⟨Nat.le_of_ble_eq_true rfl, Nat.le_of_ble_eq_true rfl⟩) ⟨fun a U g mk q => ⟨q.1, q.2.1, q.2.2.1, va_K.moved (u := U) (U := U.calling g mk a) (Vm.Alike.refl U.vm) q.2.2.2.1, q.2.2.2.2⟩, va_recv hK hP (ci := 2) (q0 := 0) rfl rfl, fun U hU hW => ⟨rfl, by rw [hU], by rw [hU]; exact hP, va_K.moved hW.alike hK, hD.weaken (fun _ _ _ _ => trivial)⟩⟩ rfl rfl hl.1 rfl (lv_room (Nat.le_of_ble_eq_true rfl)) dX1_move_151 ⟨Nat.le_of_ble_eq_true rfl, Nat.le_of_ble_eq_true rfl⟩) hS hFc (fun r_25 H locs hr_25 hP _ _ hS => ?_)
            subst hr_25
            refine kt_i (y := b2i false) rfl ?_
            have hD : va_D A (WM k0 kv ko ks km kt kp kb cZ cD cI (thr false false false) mv io sz mk se pv pd op mw) := va_D_same (ws := WM k0 kv ko ks km kt kp kb cZ cD cI th mv io sz mk se pv pd op mw) rfl hD
            have hP : va_P D vwCl (WM k0 kv ko ks km kt kp kb cZ cD cI (thr false false false) mv io sz mk se pv pd op mw) H := hP
            refine kb_eq (tgt := 159) hx hb dX1_move_154 (by decide) (fun _ => ?_) (fun h => absurd h (by decide))
            refine lv_aload_n hx hb dX1_move_159 rfl (lv_at hl 7 rfl) ?_
            refine lv_iload_n hx hb dX1_move_160 rfl (lv_at hl 8 rfl) ?_
            refine va_put (D := D) (ci := 2) (v := .int (b2i true)) (ty := .boolean) (C := RX1) (T := TX1) (N := 10) hx hb hts hinRX1 tyX1 tyX1_ok nmX1 hown hK hP hD hS 0 rfl rfl 8 (by decide) hf_111 (fun _ h9 => h9) rfl (by decide +kernel) (b2i_nar _) (b2i_fit _) (Nat.le_of_ble_eq_true rfl) dX1_move_161 (fun H locs hP hD hS => ?_)
            have hP : va_P D vwCl (WM k0 kv ko ks km kt kp kb cZ cD cI (thr false false false) mv io sz mk se pv pd true mw) H := hP
            have hD : va_D A (WM k0 kv ko ks km kt kp kb cZ cD cI (thr false false false) mv io sz mk se pv pd true mw) := hD
            refine lv_aload_n hx hb dX1_move_164 rfl (lv_at hl 7 rfl) ?_
            refine lv_dup hx hb dX1_move_165 rfl ?_
            refine va_get (D := D) (ci := 2) (v := .int mw) (C := RX1) (T := TX1) (N := 10) hx hb hts hinRX1 hown hK hP 0 rfl rfl 9 (by decide) hf_115 (fun _ h9 => h9) rfl dX1_move_166 ?_
            refine lv_iconst (v := nI 1) hx hb dX1_move_169 (by decide) ?_
            refine lv_iadd hx hb dX1_move_170 ?_
            refine va_put (D := D) (ci := 2) (v := .int (mw + (nI 1))) (ty := .int) (C := RX1) (T := TX1) (N := 10) hx hb hts hinRX1 tyX1 tyX1_ok nmX1 hown hK hP hD hS 0 rfl rfl 9 (by decide) hf_115 (fun _ h9 => h9) rfl (by decide +kernel) rfl rfl (Nat.le_of_ble_eq_true rfl) dX1_move_171 (fun H locs hP hD hS => ?_)
            have hP : va_P D vwCl (WM k0 kv ko ks km kt kp kb cZ cD cI (thr false false false) mv io sz mk se pv pd true (mw + (nI 1))) H := hP
            have hD : va_D A (WM k0 kv ko ks km kt kp kb cZ cD cI (thr false false false) mv io sz mk se pv pd true (mw + (nI 1))) := hD
            refine lv_aload_n hx hb dX1_move_174 rfl (lv_at hl 7 rfl) ?_
            refine va_get (D := D) (ci := 2) (v := .int (mw + (nI 1))) (C := RX1) (T := TX1) (N := 10) hx hb hts hinRX1 hown hK hP 0 rfl rfl 9 (by decide) hf_115 (fun _ h9 => h9) rfl dX1_move_175 ?_
            refine W.widen (k := 0) (n := 0) (Nat.le_of_ble_eq_true rfl) (Nat.le_of_ble_eq_true rfl) ?_
            exact W.iret (v := mw + (nI 1)) hx hb hr (fun t9 ht9 hW9 => ⟨⟨_, rfl, by rw [tMo_of (A := false) (B := false) (C := false) (bnf c_1) (decide_eq_false (fun h => h c_23)) (and_f c_24)]; rfl, by rw [ht9, tMo_of (A := false) (B := false) (C := false) (bnf c_1) (decide_eq_false (fun h => h c_23)) (and_f c_24)]; exact hP⟩, hS.F ht9⟩) hS.2.2 dX1_move_178
          · refine lv_iload hx hb dX1_move_118 (lv_at hl 3 rfl) ?_
            refine lv_iconst (v := nI 1) hx hb dX1_move_120 (by decide) ?_
            refine kn_icmp_eq (tgt := 128) hx hb (Nat.lt_trans (wy_lt _ _ _) (by decide)) (by decide) dX1_move_121 (by decide) (fun c_26 => ?_) (fun c_26 => ?_)
            · refine lv_iconst (v := nI 0) hx hb dX1_move_128 (by decide) ?_
              refine lv_goto (tgt := 143) hx hb dX1_move_129 (by decide) ?_
              refine lv_istore (lv' := [(8, .int (nI 0)), (7, .int (nI 0)), (6, .int (nI (wy false (lw mv sz 2) (mk 1)))), (5, .int (nI (wy (lo io sz 0 || !se 0) (lw mv sz 0) (mk 0)))), (4, .int (nI (wy (lo io sz 3 || !se 5) (lw mv sz 3) (mk 5)))), (3, .int (nI (wy (lo io sz 0 || lo io sz 2) (lw mv sz 0) (lw mv sz 2)))), (2, .int (nI 0)), (0, .ref k0), (1, .int (b2i true))]) hx hb dX1_move_143 hl (by decide) rfl (fun ls hl => ?_)
              refine lv_aload_n hx hb dX1_move_145 rfl (lv_at hl 7 rfl) ?_
              refine lv_iload_n hx hb dX1_move_146 rfl (lv_at hl 6 rfl) ?_
              refine lv_iload hx hb dX1_move_147 (lv_at hl 1 rfl) ?_
              refine lv_iload hx hb dX1_move_149 (lv_at hl 0 rfl) ?_
              have hFc := va_free (wc := WM k0 kv ko ks km kt kp kb cZ cD cI th mv io sz mk se pv pd op mw) hD hS hA [0, 1, 2, 3, 4, 5, 6, 7] rfl
              refine wr_calli (va_runV (As := [.int (b2i false), .int (b2i false), .int (b2i false)]) (rest := []) ⟨hx, hb, hml, hown, hts⟩ (c_X1_throwing l D k0 kv ko ks km kt kp kb cZ cD cI th mv io sz mk se pv pd op mw hsz s.heap.size false false false ) (cwV 3 hts gX1_move_X1_throwing rfl rfl rfl (by decide +kernel) ⟨Nat.le_of_ble_eq_true rfl, Nat.le_of_ble_eq_true rfl⟩) ⟨fun a U g mk q => ⟨q.1, q.2.1, q.2.2.1, va_K.moved (u := U) (U := U.calling g mk a) (Vm.Alike.refl U.vm) q.2.2.2.1, q.2.2.2.2⟩, va_recv hK hP (ci := 2) (q0 := 0) rfl rfl, fun U hU hW => ⟨rfl, by rw [hU], by rw [hU]; exact hP, va_K.moved hW.alike hK, hD.weaken (fun _ _ _ _ => trivial)⟩⟩ rfl rfl hl.1 rfl (lv_room (Nat.le_of_ble_eq_true rfl)) dX1_move_151 ⟨Nat.le_of_ble_eq_true rfl, Nat.le_of_ble_eq_true rfl⟩) hS hFc (fun r_27 H locs hr_27 hP _ _ hS => ?_)
              subst hr_27
              refine kt_i (y := b2i false) rfl ?_
              have hD : va_D A (WM k0 kv ko ks km kt kp kb cZ cD cI (thr false false false) mv io sz mk se pv pd op mw) := va_D_same (ws := WM k0 kv ko ks km kt kp kb cZ cD cI th mv io sz mk se pv pd op mw) rfl hD
              have hP : va_P D vwCl (WM k0 kv ko ks km kt kp kb cZ cD cI (thr false false false) mv io sz mk se pv pd op mw) H := hP
              refine kb_eq (tgt := 159) hx hb dX1_move_154 (by decide) (fun _ => ?_) (fun h => absurd h (by decide))
              refine lv_aload_n hx hb dX1_move_159 rfl (lv_at hl 7 rfl) ?_
              refine lv_iload_n hx hb dX1_move_160 rfl (lv_at hl 8 rfl) ?_
              refine va_put (D := D) (ci := 2) (v := .int (b2i true)) (ty := .boolean) (C := RX1) (T := TX1) (N := 10) hx hb hts hinRX1 tyX1 tyX1_ok nmX1 hown hK hP hD hS 0 rfl rfl 8 (by decide) hf_111 (fun _ h9 => h9) rfl (by decide +kernel) (b2i_nar _) (b2i_fit _) (Nat.le_of_ble_eq_true rfl) dX1_move_161 (fun H locs hP hD hS => ?_)
              have hP : va_P D vwCl (WM k0 kv ko ks km kt kp kb cZ cD cI (thr false false false) mv io sz mk se pv pd true mw) H := hP
              have hD : va_D A (WM k0 kv ko ks km kt kp kb cZ cD cI (thr false false false) mv io sz mk se pv pd true mw) := hD
              refine lv_aload_n hx hb dX1_move_164 rfl (lv_at hl 7 rfl) ?_
              refine lv_dup hx hb dX1_move_165 rfl ?_
              refine va_get (D := D) (ci := 2) (v := .int mw) (C := RX1) (T := TX1) (N := 10) hx hb hts hinRX1 hown hK hP 0 rfl rfl 9 (by decide) hf_115 (fun _ h9 => h9) rfl dX1_move_166 ?_
              refine lv_iconst (v := nI 1) hx hb dX1_move_169 (by decide) ?_
              refine lv_iadd hx hb dX1_move_170 ?_
              refine va_put (D := D) (ci := 2) (v := .int (mw + (nI 1))) (ty := .int) (C := RX1) (T := TX1) (N := 10) hx hb hts hinRX1 tyX1 tyX1_ok nmX1 hown hK hP hD hS 0 rfl rfl 9 (by decide) hf_115 (fun _ h9 => h9) rfl (by decide +kernel) rfl rfl (Nat.le_of_ble_eq_true rfl) dX1_move_171 (fun H locs hP hD hS => ?_)
              have hP : va_P D vwCl (WM k0 kv ko ks km kt kp kb cZ cD cI (thr false false false) mv io sz mk se pv pd true (mw + (nI 1))) H := hP
              have hD : va_D A (WM k0 kv ko ks km kt kp kb cZ cD cI (thr false false false) mv io sz mk se pv pd true (mw + (nI 1))) := hD
              refine lv_aload_n hx hb dX1_move_174 rfl (lv_at hl 7 rfl) ?_
              refine va_get (D := D) (ci := 2) (v := .int (mw + (nI 1))) (C := RX1) (T := TX1) (N := 10) hx hb hts hinRX1 hown hK hP 0 rfl rfl 9 (by decide) hf_115 (fun _ h9 => h9) rfl dX1_move_175 ?_
              refine W.widen (k := 0) (n := 0) (Nat.le_of_ble_eq_true rfl) (Nat.le_of_ble_eq_true rfl) ?_
              exact W.iret (v := mw + (nI 1)) hx hb hr (fun t9 ht9 hW9 => ⟨⟨_, rfl, by rw [tMo_of (A := false) (B := false) (C := false) (bnf c_1) (decide_eq_false (fun h => h c_23)) (and_t c_24 (decide_eq_false (fun h => h c_26)))]; rfl, by rw [ht9, tMo_of (A := false) (B := false) (C := false) (bnf c_1) (decide_eq_false (fun h => h c_23)) (and_t c_24 (decide_eq_false (fun h => h c_26)))]; exact hP⟩, hS.F ht9⟩) hS.2.2 dX1_move_178
            · refine lv_iconst (v := nI 1) hx hb dX1_move_124 (by decide) ?_
              refine lv_goto (tgt := 143) hx hb dX1_move_125 (by decide) ?_
              refine lv_istore (lv' := [(8, .int (nI 1)), (7, .int (nI 0)), (6, .int (nI (wy false (lw mv sz 2) (mk 1)))), (5, .int (nI (wy (lo io sz 0 || !se 0) (lw mv sz 0) (mk 0)))), (4, .int (nI (wy (lo io sz 3 || !se 5) (lw mv sz 3) (mk 5)))), (3, .int (nI (wy (lo io sz 0 || lo io sz 2) (lw mv sz 0) (lw mv sz 2)))), (2, .int (nI 0)), (0, .ref k0), (1, .int (b2i true))]) hx hb dX1_move_143 hl (by decide) rfl (fun ls hl => ?_)
              refine lv_aload_n hx hb dX1_move_145 rfl (lv_at hl 7 rfl) ?_
              refine lv_iload_n hx hb dX1_move_146 rfl (lv_at hl 6 rfl) ?_
              refine lv_iload hx hb dX1_move_147 (lv_at hl 1 rfl) ?_
              refine lv_iload hx hb dX1_move_149 (lv_at hl 0 rfl) ?_
              have hFc := va_free (wc := WM k0 kv ko ks km kt kp kb cZ cD cI th mv io sz mk se pv pd op mw) hD hS hA [0, 1, 2, 3, 4, 5, 6, 7] rfl
              refine wr_calli (va_runV (As := [.int (b2i false), .int (b2i false), .int (b2i true)]) (rest := []) ⟨hx, hb, hml, hown, hts⟩ (c_X1_throwing l D k0 kv ko ks km kt kp kb cZ cD cI th mv io sz mk se pv pd op mw hsz s.heap.size false false true ) (cwV 3 hts gX1_move_X1_throwing rfl rfl rfl (by decide +kernel) ⟨Nat.le_of_ble_eq_true rfl, Nat.le_of_ble_eq_true rfl⟩) ⟨fun a U g mk q => ⟨q.1, q.2.1, q.2.2.1, va_K.moved (u := U) (U := U.calling g mk a) (Vm.Alike.refl U.vm) q.2.2.2.1, q.2.2.2.2⟩, va_recv hK hP (ci := 2) (q0 := 0) rfl rfl, fun U hU hW => ⟨rfl, by rw [hU], by rw [hU]; exact hP, va_K.moved hW.alike hK, hD.weaken (fun _ _ _ _ => trivial)⟩⟩ rfl rfl hl.1 rfl (lv_room (Nat.le_of_ble_eq_true rfl)) dX1_move_151 ⟨Nat.le_of_ble_eq_true rfl, Nat.le_of_ble_eq_true rfl⟩) hS hFc (fun r_28 H locs hr_28 hP _ _ hS => ?_)
              subst hr_28
              refine kt_i (y := b2i true) rfl ?_
              have hD : va_D A (WM k0 kv ko ks km kt kp kb cZ cD cI (thr false false true) mv io sz mk se pv pd op mw) := va_D_same (ws := WM k0 kv ko ks km kt kp kb cZ cD cI th mv io sz mk se pv pd op mw) rfl hD
              have hP : va_P D vwCl (WM k0 kv ko ks km kt kp kb cZ cD cI (thr false false true) mv io sz mk se pv pd op mw) H := hP
              refine kb_eq (tgt := 159) hx hb dX1_move_154 (by decide) (fun h => absurd h (by decide)) (fun _ => ?_)
              refine lv_iconst (v := nI 0) hx hb dX1_move_157 (by decide) ?_
              refine W.widen (k := 0) (n := 0) (Nat.le_of_ble_eq_true rfl) (Nat.le_of_ble_eq_true rfl) ?_
              exact W.iret (v := nI 0) hx hb hr (fun t9 ht9 hW9 => ⟨⟨_, rfl, by rw [tMo_of (A := false) (B := false) (C := true) (bnf c_1) (decide_eq_false (fun h => h c_23)) (and_t c_24 (decide_eq_true c_26))]; rfl, by rw [ht9, tMo_of (A := false) (B := false) (C := true) (bnf c_1) (decide_eq_false (fun h => h c_23)) (and_t c_24 (decide_eq_true c_26))]; exact hP⟩, hS.F ht9⟩) hS.2.2 dX1_move_158
        · refine lv_iconst (v := nI 1) hx hb dX1_move_84 (by decide) ?_
          refine lv_goto (tgt := 103) hx hb dX1_move_85 (by decide) ?_
          refine lv_istore (lv' := [(7, .int (nI 1)), (6, .int (nI (wy false (lw mv sz 2) (mk 1)))), (5, .int (nI (wy (lo io sz 0 || !se 0) (lw mv sz 0) (mk 0)))), (4, .int (nI (wy (lo io sz 3 || !se 5) (lw mv sz 3) (mk 5)))), (3, .int (nI (wy (lo io sz 0 || lo io sz 2) (lw mv sz 0) (lw mv sz 2)))), (2, .int (nI 0)), (0, .ref k0), (1, .int (b2i true))]) hx hb dX1_move_103 hl (by decide) rfl (fun ls hl => ?_)
          refine lv_iload_n hx hb dX1_move_105 rfl (lv_at hl 7 rfl) ?_
          refine kb_eq (tgt := 132) hx hb dX1_move_106 (by decide) (fun h => absurd h (by decide)) (fun _ => ?_)
          refine lv_aload_n hx hb dX1_move_109 rfl (lv_at hl 6 rfl) ?_
          refine va_get (D := D) (ci := 2) (v := .ref kt) (C := RX1) (T := TX1) (N := 10) hx hb hts hinRX1 hown hK hP 0 rfl rfl 5 (by decide) hf_24 (fun _ h9 => h9) rfl dX1_move_110 ?_
          refine lv_iconst (v := nI 5) hx hb dX1_move_113 (by decide) ?_
          refine kn_zald hx hb hK hP 5 0 rfl rfl (by omega) (by decide) dX1_move_114 ?_
          refine kb_eq (tgt := 128) hx hb dX1_move_115 (by decide) (fun c_29 => ?_) (fun c_29 => ?_)
          · refine lv_iconst (v := nI 0) hx hb dX1_move_128 (by decide) ?_
            refine lv_goto (tgt := 143) hx hb dX1_move_129 (by decide) ?_
            refine lv_istore (lv' := [(8, .int (nI 0)), (7, .int (nI 1)), (6, .int (nI (wy false (lw mv sz 2) (mk 1)))), (5, .int (nI (wy (lo io sz 0 || !se 0) (lw mv sz 0) (mk 0)))), (4, .int (nI (wy (lo io sz 3 || !se 5) (lw mv sz 3) (mk 5)))), (3, .int (nI (wy (lo io sz 0 || lo io sz 2) (lw mv sz 0) (lw mv sz 2)))), (2, .int (nI 0)), (0, .ref k0), (1, .int (b2i true))]) hx hb dX1_move_143 hl (by decide) rfl (fun ls hl => ?_)
            refine lv_aload_n hx hb dX1_move_145 rfl (lv_at hl 7 rfl) ?_
            refine lv_iload_n hx hb dX1_move_146 rfl (lv_at hl 6 rfl) ?_
            refine lv_iload hx hb dX1_move_147 (lv_at hl 1 rfl) ?_
            refine lv_iload hx hb dX1_move_149 (lv_at hl 0 rfl) ?_
            have hFc := va_free (wc := WM k0 kv ko ks km kt kp kb cZ cD cI th mv io sz mk se pv pd op mw) hD hS hA [0, 1, 2, 3, 4, 5, 6, 7] rfl
            refine wr_calli (va_runV (As := [.int (b2i false), .int (b2i true), .int (b2i false)]) (rest := []) ⟨hx, hb, hml, hown, hts⟩ (c_X1_throwing l D k0 kv ko ks km kt kp kb cZ cD cI th mv io sz mk se pv pd op mw hsz s.heap.size false true false ) (cwV 3 hts gX1_move_X1_throwing rfl rfl rfl (by decide +kernel) ⟨Nat.le_of_ble_eq_true rfl, Nat.le_of_ble_eq_true rfl⟩) ⟨fun a U g mk q => ⟨q.1, q.2.1, q.2.2.1, va_K.moved (u := U) (U := U.calling g mk a) (Vm.Alike.refl U.vm) q.2.2.2.1, q.2.2.2.2⟩, va_recv hK hP (ci := 2) (q0 := 0) rfl rfl, fun U hU hW => ⟨rfl, by rw [hU], by rw [hU]; exact hP, va_K.moved hW.alike hK, hD.weaken (fun _ _ _ _ => trivial)⟩⟩ rfl rfl hl.1 rfl (lv_room (Nat.le_of_ble_eq_true rfl)) dX1_move_151 ⟨Nat.le_of_ble_eq_true rfl, Nat.le_of_ble_eq_true rfl⟩) hS hFc (fun r_30 H locs hr_30 hP _ _ hS => ?_)
            subst hr_30
            refine kt_i (y := b2i true) rfl ?_
            have hD : va_D A (WM k0 kv ko ks km kt kp kb cZ cD cI (thr false true false) mv io sz mk se pv pd op mw) := va_D_same (ws := WM k0 kv ko ks km kt kp kb cZ cD cI th mv io sz mk se pv pd op mw) rfl hD
            have hP : va_P D vwCl (WM k0 kv ko ks km kt kp kb cZ cD cI (thr false true false) mv io sz mk se pv pd op mw) H := hP
            refine kb_eq (tgt := 159) hx hb dX1_move_154 (by decide) (fun h => absurd h (by decide)) (fun _ => ?_)
            refine lv_iconst (v := nI 0) hx hb dX1_move_157 (by decide) ?_
            refine W.widen (k := 0) (n := 0) (Nat.le_of_ble_eq_true rfl) (Nat.le_of_ble_eq_true rfl) ?_
            exact W.iret (v := nI 0) hx hb hr (fun t9 ht9 hW9 => ⟨⟨_, rfl, by rw [tMo_of (A := false) (B := true) (C := false) (bnf c_1) (decide_eq_true c_23) (and_f c_29)]; rfl, by rw [ht9, tMo_of (A := false) (B := true) (C := false) (bnf c_1) (decide_eq_true c_23) (and_f c_29)]; exact hP⟩, hS.F ht9⟩) hS.2.2 dX1_move_158
          · refine lv_iload hx hb dX1_move_118 (lv_at hl 3 rfl) ?_
            refine lv_iconst (v := nI 1) hx hb dX1_move_120 (by decide) ?_
            refine kn_icmp_eq (tgt := 128) hx hb (Nat.lt_trans (wy_lt _ _ _) (by decide)) (by decide) dX1_move_121 (by decide) (fun c_31 => ?_) (fun c_31 => ?_)
            · refine lv_iconst (v := nI 0) hx hb dX1_move_128 (by decide) ?_
              refine lv_goto (tgt := 143) hx hb dX1_move_129 (by decide) ?_
              refine lv_istore (lv' := [(8, .int (nI 0)), (7, .int (nI 1)), (6, .int (nI (wy false (lw mv sz 2) (mk 1)))), (5, .int (nI (wy (lo io sz 0 || !se 0) (lw mv sz 0) (mk 0)))), (4, .int (nI (wy (lo io sz 3 || !se 5) (lw mv sz 3) (mk 5)))), (3, .int (nI (wy (lo io sz 0 || lo io sz 2) (lw mv sz 0) (lw mv sz 2)))), (2, .int (nI 0)), (0, .ref k0), (1, .int (b2i true))]) hx hb dX1_move_143 hl (by decide) rfl (fun ls hl => ?_)
              refine lv_aload_n hx hb dX1_move_145 rfl (lv_at hl 7 rfl) ?_
              refine lv_iload_n hx hb dX1_move_146 rfl (lv_at hl 6 rfl) ?_
              refine lv_iload hx hb dX1_move_147 (lv_at hl 1 rfl) ?_
              refine lv_iload hx hb dX1_move_149 (lv_at hl 0 rfl) ?_
              have hFc := va_free (wc := WM k0 kv ko ks km kt kp kb cZ cD cI th mv io sz mk se pv pd op mw) hD hS hA [0, 1, 2, 3, 4, 5, 6, 7] rfl
              refine wr_calli (va_runV (As := [.int (b2i false), .int (b2i true), .int (b2i false)]) (rest := []) ⟨hx, hb, hml, hown, hts⟩ (c_X1_throwing l D k0 kv ko ks km kt kp kb cZ cD cI th mv io sz mk se pv pd op mw hsz s.heap.size false true false ) (cwV 3 hts gX1_move_X1_throwing rfl rfl rfl (by decide +kernel) ⟨Nat.le_of_ble_eq_true rfl, Nat.le_of_ble_eq_true rfl⟩) ⟨fun a U g mk q => ⟨q.1, q.2.1, q.2.2.1, va_K.moved (u := U) (U := U.calling g mk a) (Vm.Alike.refl U.vm) q.2.2.2.1, q.2.2.2.2⟩, va_recv hK hP (ci := 2) (q0 := 0) rfl rfl, fun U hU hW => ⟨rfl, by rw [hU], by rw [hU]; exact hP, va_K.moved hW.alike hK, hD.weaken (fun _ _ _ _ => trivial)⟩⟩ rfl rfl hl.1 rfl (lv_room (Nat.le_of_ble_eq_true rfl)) dX1_move_151 ⟨Nat.le_of_ble_eq_true rfl, Nat.le_of_ble_eq_true rfl⟩) hS hFc (fun r_32 H locs hr_32 hP _ _ hS => ?_)
              subst hr_32
              refine kt_i (y := b2i true) rfl ?_
              have hD : va_D A (WM k0 kv ko ks km kt kp kb cZ cD cI (thr false true false) mv io sz mk se pv pd op mw) := va_D_same (ws := WM k0 kv ko ks km kt kp kb cZ cD cI th mv io sz mk se pv pd op mw) rfl hD
              have hP : va_P D vwCl (WM k0 kv ko ks km kt kp kb cZ cD cI (thr false true false) mv io sz mk se pv pd op mw) H := hP
              refine kb_eq (tgt := 159) hx hb dX1_move_154 (by decide) (fun h => absurd h (by decide)) (fun _ => ?_)
              refine lv_iconst (v := nI 0) hx hb dX1_move_157 (by decide) ?_
              refine W.widen (k := 0) (n := 0) (Nat.le_of_ble_eq_true rfl) (Nat.le_of_ble_eq_true rfl) ?_
              exact W.iret (v := nI 0) hx hb hr (fun t9 ht9 hW9 => ⟨⟨_, rfl, by rw [tMo_of (A := false) (B := true) (C := false) (bnf c_1) (decide_eq_true c_23) (and_t c_29 (decide_eq_false (fun h => h c_31)))]; rfl, by rw [ht9, tMo_of (A := false) (B := true) (C := false) (bnf c_1) (decide_eq_true c_23) (and_t c_29 (decide_eq_false (fun h => h c_31)))]; exact hP⟩, hS.F ht9⟩) hS.2.2 dX1_move_158
            · refine lv_iconst (v := nI 1) hx hb dX1_move_124 (by decide) ?_
              refine lv_goto (tgt := 143) hx hb dX1_move_125 (by decide) ?_
              refine lv_istore (lv' := [(8, .int (nI 1)), (7, .int (nI 1)), (6, .int (nI (wy false (lw mv sz 2) (mk 1)))), (5, .int (nI (wy (lo io sz 0 || !se 0) (lw mv sz 0) (mk 0)))), (4, .int (nI (wy (lo io sz 3 || !se 5) (lw mv sz 3) (mk 5)))), (3, .int (nI (wy (lo io sz 0 || lo io sz 2) (lw mv sz 0) (lw mv sz 2)))), (2, .int (nI 0)), (0, .ref k0), (1, .int (b2i true))]) hx hb dX1_move_143 hl (by decide) rfl (fun ls hl => ?_)
              refine lv_aload_n hx hb dX1_move_145 rfl (lv_at hl 7 rfl) ?_
              refine lv_iload_n hx hb dX1_move_146 rfl (lv_at hl 6 rfl) ?_
              refine lv_iload hx hb dX1_move_147 (lv_at hl 1 rfl) ?_
              refine lv_iload hx hb dX1_move_149 (lv_at hl 0 rfl) ?_
              have hFc := va_free (wc := WM k0 kv ko ks km kt kp kb cZ cD cI th mv io sz mk se pv pd op mw) hD hS hA [0, 1, 2, 3, 4, 5, 6, 7] rfl
              refine wr_calli (va_runV (As := [.int (b2i false), .int (b2i true), .int (b2i true)]) (rest := []) ⟨hx, hb, hml, hown, hts⟩ (c_X1_throwing l D k0 kv ko ks km kt kp kb cZ cD cI th mv io sz mk se pv pd op mw hsz s.heap.size false true true ) (cwV 3 hts gX1_move_X1_throwing rfl rfl rfl (by decide +kernel) ⟨Nat.le_of_ble_eq_true rfl, Nat.le_of_ble_eq_true rfl⟩) ⟨fun a U g mk q => ⟨q.1, q.2.1, q.2.2.1, va_K.moved (u := U) (U := U.calling g mk a) (Vm.Alike.refl U.vm) q.2.2.2.1, q.2.2.2.2⟩, va_recv hK hP (ci := 2) (q0 := 0) rfl rfl, fun U hU hW => ⟨rfl, by rw [hU], by rw [hU]; exact hP, va_K.moved hW.alike hK, hD.weaken (fun _ _ _ _ => trivial)⟩⟩ rfl rfl hl.1 rfl (lv_room (Nat.le_of_ble_eq_true rfl)) dX1_move_151 ⟨Nat.le_of_ble_eq_true rfl, Nat.le_of_ble_eq_true rfl⟩) hS hFc (fun r_33 H locs hr_33 hP _ _ hS => ?_)
              subst hr_33
              refine kt_i (y := b2i true) rfl ?_
              have hD : va_D A (WM k0 kv ko ks km kt kp kb cZ cD cI (thr false true true) mv io sz mk se pv pd op mw) := va_D_same (ws := WM k0 kv ko ks km kt kp kb cZ cD cI th mv io sz mk se pv pd op mw) rfl hD
              have hP : va_P D vwCl (WM k0 kv ko ks km kt kp kb cZ cD cI (thr false true true) mv io sz mk se pv pd op mw) H := hP
              refine kb_eq (tgt := 159) hx hb dX1_move_154 (by decide) (fun h => absurd h (by decide)) (fun _ => ?_)
              refine lv_iconst (v := nI 0) hx hb dX1_move_157 (by decide) ?_
              refine W.widen (k := 0) (n := 0) (Nat.le_of_ble_eq_true rfl) (Nat.le_of_ble_eq_true rfl) ?_
              exact W.iret (v := nI 0) hx hb hr (fun t9 ht9 hW9 => ⟨⟨_, rfl, by rw [tMo_of (A := false) (B := true) (C := true) (bnf c_1) (decide_eq_true c_23) (and_t c_29 (decide_eq_true c_31))]; rfl, by rw [ht9, tMo_of (A := false) (B := true) (C := true) (bnf c_1) (decide_eq_true c_23) (and_t c_29 (decide_eq_true c_31))]; exact hP⟩, hS.F ht9⟩) hS.2.2 dX1_move_158
      · refine lv_iconst (v := nI 1) hx hb dX1_move_54 (by decide) ?_
        refine lv_goto (tgt := 59) hx hb dX1_move_55 (by decide) ?_
        refine lv_aload_n hx hb dX1_move_59 rfl (lv_at hl 4 rfl) ?_
        refine lv_iconst (v := nI 2) hx hb dX1_move_60 (by decide) ?_
        refine rd_calld (va_runV (As := [.int (nI 2)]) (rest := [.int (nI 1)]) ⟨hx, hb, hml, hown, hts⟩ (c_X1_latestValue l D k0 kv ko ks km kt kp kb cZ cD cI th mv io sz mk se pv pd op mw hsz 2 (by omega)) (cwV 1 hts gX1_move_X1_latestValue rfl rfl rfl (by decide +kernel) ⟨Nat.le_of_ble_eq_true rfl, Nat.le_of_ble_eq_true rfl⟩) ⟨fun a U g mk q => ⟨q.1, q.2.1, va_K.moved (u := U) (U := U.calling g mk a) (Vm.Alike.refl U.vm) q.2.2⟩, va_recv hK hP (ci := 2) (q0 := 0) rfl rfl, fun U hU hW => ⟨rfl, by rw [hU]; exact hP, va_K.moved hW.alike hK⟩⟩ rfl rfl hl.1 rfl (lv_room (Nat.le_of_ble_eq_true rfl)) dX1_move_61 ⟨Nat.le_of_ble_eq_true rfl, Nat.le_of_ble_eq_true rfl⟩) (fun r_34 hr_34 => ?_)
        subst hr_34
        refine lv_aload_n hx hb dX1_move_64 rfl (lv_at hl 4 rfl) ?_
        refine va_get (D := D) (ci := 2) (v := .ref km) (C := RX1) (T := TX1) (N := 10) hx hb hts hinRX1 hown hK hP 0 rfl rfl 4 (by decide) hf_21 (fun _ h9 => h9) rfl dX1_move_65 ?_
        refine lv_iconst (v := nI 1) hx hb dX1_move_68 (by decide) ?_
        refine kn_dald hx hb hK hP 4 1 rfl rfl (by omega) (by decide) dX1_move_69 ?_
        refine rd_calli (va_runS (As := [.int (b2i true), .double (lw mv sz 2), .double (mk 1)]) (rest := []) ⟨hx, hb, hml, hown, hts⟩ (c_X1_way l true (lw mv sz 2) (mk 1) ) (va_cwS 3 hts gX1_move_X1_way rfl rfl rfl (by decide +kernel) ⟨Nat.le_of_ble_eq_true rfl, Nat.le_of_ble_eq_true rfl⟩) ⟨fun a U g mk q => q, fun U hU hW => ⟨rfl, trivial⟩⟩ rfl rfl hl.1 rfl (lv_room (Nat.le_of_ble_eq_true rfl)) dX1_move_70 ⟨Nat.le_of_ble_eq_true rfl, Nat.le_of_ble_eq_true rfl⟩) (fun r_35 hr_35 => ?_)
        subst hr_35
        refine lv_istore (lv' := [(6, .int (nI (wy true (lw mv sz 2) (mk 1)))), (5, .int (nI (wy (lo io sz 0 || !se 0) (lw mv sz 0) (mk 0)))), (4, .int (nI (wy (lo io sz 3 || !se 5) (lw mv sz 3) (mk 5)))), (3, .int (nI (wy (lo io sz 0 || lo io sz 2) (lw mv sz 0) (lw mv sz 2)))), (2, .int (nI 0)), (0, .ref k0), (1, .int (b2i true))]) hx hb dX1_move_73 hl (by decide) rfl (fun ls hl => ?_)
        refine lv_iload_n hx hb dX1_move_75 rfl (lv_at hl 6 rfl) ?_
        refine kb_eq (tgt := 92) hx hb dX1_move_76 (by decide) (fun h => absurd h (by decide)) (fun _ => ?_)
        refine lv_iload_n hx hb dX1_move_79 rfl (lv_at hl 3 rfl) ?_
        refine lv_iconst (v := nI 4) hx hb dX1_move_80 (by decide) ?_
        refine kn_icmp_eq (tgt := 88) hx hb (Nat.lt_trans (wy_lt _ _ _) (by decide)) (by decide) dX1_move_81 (by decide) (fun c_36 => ?_) (fun c_36 => ?_)
        · refine lv_iconst (v := nI 0) hx hb dX1_move_88 (by decide) ?_
          refine lv_goto (tgt := 103) hx hb dX1_move_89 (by decide) ?_
          refine lv_istore (lv' := [(7, .int (nI 0)), (6, .int (nI (wy true (lw mv sz 2) (mk 1)))), (5, .int (nI (wy (lo io sz 0 || !se 0) (lw mv sz 0) (mk 0)))), (4, .int (nI (wy (lo io sz 3 || !se 5) (lw mv sz 3) (mk 5)))), (3, .int (nI (wy (lo io sz 0 || lo io sz 2) (lw mv sz 0) (lw mv sz 2)))), (2, .int (nI 0)), (0, .ref k0), (1, .int (b2i true))]) hx hb dX1_move_103 hl (by decide) rfl (fun ls hl => ?_)
          refine lv_iload_n hx hb dX1_move_105 rfl (lv_at hl 7 rfl) ?_
          refine kb_eq (tgt := 132) hx hb dX1_move_106 (by decide) (fun h => absurd h (by decide)) (fun _ => ?_)
          refine lv_aload_n hx hb dX1_move_109 rfl (lv_at hl 6 rfl) ?_
          refine va_get (D := D) (ci := 2) (v := .ref kt) (C := RX1) (T := TX1) (N := 10) hx hb hts hinRX1 hown hK hP 0 rfl rfl 5 (by decide) hf_24 (fun _ h9 => h9) rfl dX1_move_110 ?_
          refine lv_iconst (v := nI 5) hx hb dX1_move_113 (by decide) ?_
          refine kn_zald hx hb hK hP 5 0 rfl rfl (by omega) (by decide) dX1_move_114 ?_
          refine kb_eq (tgt := 128) hx hb dX1_move_115 (by decide) (fun c_37 => ?_) (fun c_37 => ?_)
          · refine lv_iconst (v := nI 0) hx hb dX1_move_128 (by decide) ?_
            refine lv_goto (tgt := 143) hx hb dX1_move_129 (by decide) ?_
            refine lv_istore (lv' := [(8, .int (nI 0)), (7, .int (nI 0)), (6, .int (nI (wy true (lw mv sz 2) (mk 1)))), (5, .int (nI (wy (lo io sz 0 || !se 0) (lw mv sz 0) (mk 0)))), (4, .int (nI (wy (lo io sz 3 || !se 5) (lw mv sz 3) (mk 5)))), (3, .int (nI (wy (lo io sz 0 || lo io sz 2) (lw mv sz 0) (lw mv sz 2)))), (2, .int (nI 0)), (0, .ref k0), (1, .int (b2i true))]) hx hb dX1_move_143 hl (by decide) rfl (fun ls hl => ?_)
            refine lv_aload_n hx hb dX1_move_145 rfl (lv_at hl 7 rfl) ?_
            refine lv_iload_n hx hb dX1_move_146 rfl (lv_at hl 6 rfl) ?_
            refine lv_iload hx hb dX1_move_147 (lv_at hl 1 rfl) ?_
            refine lv_iload hx hb dX1_move_149 (lv_at hl 0 rfl) ?_
            have hFc := va_free (wc := WM k0 kv ko ks km kt kp kb cZ cD cI th mv io sz mk se pv pd op mw) hD hS hA [0, 1, 2, 3, 4, 5, 6, 7] rfl
            refine wr_calli (va_runV (As := [.int (b2i false), .int (b2i false), .int (b2i false)]) (rest := []) ⟨hx, hb, hml, hown, hts⟩ (c_X1_throwing l D k0 kv ko ks km kt kp kb cZ cD cI th mv io sz mk se pv pd op mw hsz s.heap.size false false false ) (cwV 3 hts gX1_move_X1_throwing rfl rfl rfl (by decide +kernel) ⟨Nat.le_of_ble_eq_true rfl, Nat.le_of_ble_eq_true rfl⟩) ⟨fun a U g mk q => ⟨q.1, q.2.1, q.2.2.1, va_K.moved (u := U) (U := U.calling g mk a) (Vm.Alike.refl U.vm) q.2.2.2.1, q.2.2.2.2⟩, va_recv hK hP (ci := 2) (q0 := 0) rfl rfl, fun U hU hW => ⟨rfl, by rw [hU], by rw [hU]; exact hP, va_K.moved hW.alike hK, hD.weaken (fun _ _ _ _ => trivial)⟩⟩ rfl rfl hl.1 rfl (lv_room (Nat.le_of_ble_eq_true rfl)) dX1_move_151 ⟨Nat.le_of_ble_eq_true rfl, Nat.le_of_ble_eq_true rfl⟩) hS hFc (fun r_38 H locs hr_38 hP _ _ hS => ?_)
            subst hr_38
            refine kt_i (y := b2i false) rfl ?_
            have hD : va_D A (WM k0 kv ko ks km kt kp kb cZ cD cI (thr false false false) mv io sz mk se pv pd op mw) := va_D_same (ws := WM k0 kv ko ks km kt kp kb cZ cD cI th mv io sz mk se pv pd op mw) rfl hD
            have hP : va_P D vwCl (WM k0 kv ko ks km kt kp kb cZ cD cI (thr false false false) mv io sz mk se pv pd op mw) H := hP
            refine kb_eq (tgt := 159) hx hb dX1_move_154 (by decide) (fun _ => ?_) (fun h => absurd h (by decide))
            refine lv_aload_n hx hb dX1_move_159 rfl (lv_at hl 7 rfl) ?_
            refine lv_iload_n hx hb dX1_move_160 rfl (lv_at hl 8 rfl) ?_
            refine va_put (D := D) (ci := 2) (v := .int (b2i true)) (ty := .boolean) (C := RX1) (T := TX1) (N := 10) hx hb hts hinRX1 tyX1 tyX1_ok nmX1 hown hK hP hD hS 0 rfl rfl 8 (by decide) hf_111 (fun _ h9 => h9) rfl (by decide +kernel) (b2i_nar _) (b2i_fit _) (Nat.le_of_ble_eq_true rfl) dX1_move_161 (fun H locs hP hD hS => ?_)
            have hP : va_P D vwCl (WM k0 kv ko ks km kt kp kb cZ cD cI (thr false false false) mv io sz mk se pv pd true mw) H := hP
            have hD : va_D A (WM k0 kv ko ks km kt kp kb cZ cD cI (thr false false false) mv io sz mk se pv pd true mw) := hD
            refine lv_aload_n hx hb dX1_move_164 rfl (lv_at hl 7 rfl) ?_
            refine lv_dup hx hb dX1_move_165 rfl ?_
            refine va_get (D := D) (ci := 2) (v := .int mw) (C := RX1) (T := TX1) (N := 10) hx hb hts hinRX1 hown hK hP 0 rfl rfl 9 (by decide) hf_115 (fun _ h9 => h9) rfl dX1_move_166 ?_
            refine lv_iconst (v := nI 1) hx hb dX1_move_169 (by decide) ?_
            refine lv_iadd hx hb dX1_move_170 ?_
            refine va_put (D := D) (ci := 2) (v := .int (mw + (nI 1))) (ty := .int) (C := RX1) (T := TX1) (N := 10) hx hb hts hinRX1 tyX1 tyX1_ok nmX1 hown hK hP hD hS 0 rfl rfl 9 (by decide) hf_115 (fun _ h9 => h9) rfl (by decide +kernel) rfl rfl (Nat.le_of_ble_eq_true rfl) dX1_move_171 (fun H locs hP hD hS => ?_)
            have hP : va_P D vwCl (WM k0 kv ko ks km kt kp kb cZ cD cI (thr false false false) mv io sz mk se pv pd true (mw + (nI 1))) H := hP
            have hD : va_D A (WM k0 kv ko ks km kt kp kb cZ cD cI (thr false false false) mv io sz mk se pv pd true (mw + (nI 1))) := hD
            refine lv_aload_n hx hb dX1_move_174 rfl (lv_at hl 7 rfl) ?_
            refine va_get (D := D) (ci := 2) (v := .int (mw + (nI 1))) (C := RX1) (T := TX1) (N := 10) hx hb hts hinRX1 hown hK hP 0 rfl rfl 9 (by decide) hf_115 (fun _ h9 => h9) rfl dX1_move_175 ?_
            refine W.widen (k := 0) (n := 0) (Nat.le_of_ble_eq_true rfl) (Nat.le_of_ble_eq_true rfl) ?_
            exact W.iret (v := mw + (nI 1)) hx hb hr (fun t9 ht9 hW9 => ⟨⟨_, rfl, by rw [tMo_of (A := false) (B := false) (C := false) (bnf c_1) (decide_eq_false (fun h => h c_36)) (and_f c_37)]; rfl, by rw [ht9, tMo_of (A := false) (B := false) (C := false) (bnf c_1) (decide_eq_false (fun h => h c_36)) (and_f c_37)]; exact hP⟩, hS.F ht9⟩) hS.2.2 dX1_move_178
          · refine lv_iload hx hb dX1_move_118 (lv_at hl 3 rfl) ?_
            refine lv_iconst (v := nI 1) hx hb dX1_move_120 (by decide) ?_
            refine kn_icmp_eq (tgt := 128) hx hb (Nat.lt_trans (wy_lt _ _ _) (by decide)) (by decide) dX1_move_121 (by decide) (fun c_39 => ?_) (fun c_39 => ?_)
            · refine lv_iconst (v := nI 0) hx hb dX1_move_128 (by decide) ?_
              refine lv_goto (tgt := 143) hx hb dX1_move_129 (by decide) ?_
              refine lv_istore (lv' := [(8, .int (nI 0)), (7, .int (nI 0)), (6, .int (nI (wy true (lw mv sz 2) (mk 1)))), (5, .int (nI (wy (lo io sz 0 || !se 0) (lw mv sz 0) (mk 0)))), (4, .int (nI (wy (lo io sz 3 || !se 5) (lw mv sz 3) (mk 5)))), (3, .int (nI (wy (lo io sz 0 || lo io sz 2) (lw mv sz 0) (lw mv sz 2)))), (2, .int (nI 0)), (0, .ref k0), (1, .int (b2i true))]) hx hb dX1_move_143 hl (by decide) rfl (fun ls hl => ?_)
              refine lv_aload_n hx hb dX1_move_145 rfl (lv_at hl 7 rfl) ?_
              refine lv_iload_n hx hb dX1_move_146 rfl (lv_at hl 6 rfl) ?_
              refine lv_iload hx hb dX1_move_147 (lv_at hl 1 rfl) ?_
              refine lv_iload hx hb dX1_move_149 (lv_at hl 0 rfl) ?_
              have hFc := va_free (wc := WM k0 kv ko ks km kt kp kb cZ cD cI th mv io sz mk se pv pd op mw) hD hS hA [0, 1, 2, 3, 4, 5, 6, 7] rfl
              refine wr_calli (va_runV (As := [.int (b2i false), .int (b2i false), .int (b2i false)]) (rest := []) ⟨hx, hb, hml, hown, hts⟩ (c_X1_throwing l D k0 kv ko ks km kt kp kb cZ cD cI th mv io sz mk se pv pd op mw hsz s.heap.size false false false ) (cwV 3 hts gX1_move_X1_throwing rfl rfl rfl (by decide +kernel) ⟨Nat.le_of_ble_eq_true rfl, Nat.le_of_ble_eq_true rfl⟩) ⟨fun a U g mk q => ⟨q.1, q.2.1, q.2.2.1, va_K.moved (u := U) (U := U.calling g mk a) (Vm.Alike.refl U.vm) q.2.2.2.1, q.2.2.2.2⟩, va_recv hK hP (ci := 2) (q0 := 0) rfl rfl, fun U hU hW => ⟨rfl, by rw [hU], by rw [hU]; exact hP, va_K.moved hW.alike hK, hD.weaken (fun _ _ _ _ => trivial)⟩⟩ rfl rfl hl.1 rfl (lv_room (Nat.le_of_ble_eq_true rfl)) dX1_move_151 ⟨Nat.le_of_ble_eq_true rfl, Nat.le_of_ble_eq_true rfl⟩) hS hFc (fun r_40 H locs hr_40 hP _ _ hS => ?_)
              subst hr_40
              refine kt_i (y := b2i false) rfl ?_
              have hD : va_D A (WM k0 kv ko ks km kt kp kb cZ cD cI (thr false false false) mv io sz mk se pv pd op mw) := va_D_same (ws := WM k0 kv ko ks km kt kp kb cZ cD cI th mv io sz mk se pv pd op mw) rfl hD
              have hP : va_P D vwCl (WM k0 kv ko ks km kt kp kb cZ cD cI (thr false false false) mv io sz mk se pv pd op mw) H := hP
              refine kb_eq (tgt := 159) hx hb dX1_move_154 (by decide) (fun _ => ?_) (fun h => absurd h (by decide))
              refine lv_aload_n hx hb dX1_move_159 rfl (lv_at hl 7 rfl) ?_
              refine lv_iload_n hx hb dX1_move_160 rfl (lv_at hl 8 rfl) ?_
              refine va_put (D := D) (ci := 2) (v := .int (b2i true)) (ty := .boolean) (C := RX1) (T := TX1) (N := 10) hx hb hts hinRX1 tyX1 tyX1_ok nmX1 hown hK hP hD hS 0 rfl rfl 8 (by decide) hf_111 (fun _ h9 => h9) rfl (by decide +kernel) (b2i_nar _) (b2i_fit _) (Nat.le_of_ble_eq_true rfl) dX1_move_161 (fun H locs hP hD hS => ?_)
              have hP : va_P D vwCl (WM k0 kv ko ks km kt kp kb cZ cD cI (thr false false false) mv io sz mk se pv pd true mw) H := hP
              have hD : va_D A (WM k0 kv ko ks km kt kp kb cZ cD cI (thr false false false) mv io sz mk se pv pd true mw) := hD
              refine lv_aload_n hx hb dX1_move_164 rfl (lv_at hl 7 rfl) ?_
              refine lv_dup hx hb dX1_move_165 rfl ?_
              refine va_get (D := D) (ci := 2) (v := .int mw) (C := RX1) (T := TX1) (N := 10) hx hb hts hinRX1 hown hK hP 0 rfl rfl 9 (by decide) hf_115 (fun _ h9 => h9) rfl dX1_move_166 ?_
              refine lv_iconst (v := nI 1) hx hb dX1_move_169 (by decide) ?_
              refine lv_iadd hx hb dX1_move_170 ?_
              refine va_put (D := D) (ci := 2) (v := .int (mw + (nI 1))) (ty := .int) (C := RX1) (T := TX1) (N := 10) hx hb hts hinRX1 tyX1 tyX1_ok nmX1 hown hK hP hD hS 0 rfl rfl 9 (by decide) hf_115 (fun _ h9 => h9) rfl (by decide +kernel) rfl rfl (Nat.le_of_ble_eq_true rfl) dX1_move_171 (fun H locs hP hD hS => ?_)
              have hP : va_P D vwCl (WM k0 kv ko ks km kt kp kb cZ cD cI (thr false false false) mv io sz mk se pv pd true (mw + (nI 1))) H := hP
              have hD : va_D A (WM k0 kv ko ks km kt kp kb cZ cD cI (thr false false false) mv io sz mk se pv pd true (mw + (nI 1))) := hD
              refine lv_aload_n hx hb dX1_move_174 rfl (lv_at hl 7 rfl) ?_
              refine va_get (D := D) (ci := 2) (v := .int (mw + (nI 1))) (C := RX1) (T := TX1) (N := 10) hx hb hts hinRX1 hown hK hP 0 rfl rfl 9 (by decide) hf_115 (fun _ h9 => h9) rfl dX1_move_175 ?_
              refine W.widen (k := 0) (n := 0) (Nat.le_of_ble_eq_true rfl) (Nat.le_of_ble_eq_true rfl) ?_
              exact W.iret (v := mw + (nI 1)) hx hb hr (fun t9 ht9 hW9 => ⟨⟨_, rfl, by rw [tMo_of (A := false) (B := false) (C := false) (bnf c_1) (decide_eq_false (fun h => h c_36)) (and_t c_37 (decide_eq_false (fun h => h c_39)))]; rfl, by rw [ht9, tMo_of (A := false) (B := false) (C := false) (bnf c_1) (decide_eq_false (fun h => h c_36)) (and_t c_37 (decide_eq_false (fun h => h c_39)))]; exact hP⟩, hS.F ht9⟩) hS.2.2 dX1_move_178
            · refine lv_iconst (v := nI 1) hx hb dX1_move_124 (by decide) ?_
              refine lv_goto (tgt := 143) hx hb dX1_move_125 (by decide) ?_
              refine lv_istore (lv' := [(8, .int (nI 1)), (7, .int (nI 0)), (6, .int (nI (wy true (lw mv sz 2) (mk 1)))), (5, .int (nI (wy (lo io sz 0 || !se 0) (lw mv sz 0) (mk 0)))), (4, .int (nI (wy (lo io sz 3 || !se 5) (lw mv sz 3) (mk 5)))), (3, .int (nI (wy (lo io sz 0 || lo io sz 2) (lw mv sz 0) (lw mv sz 2)))), (2, .int (nI 0)), (0, .ref k0), (1, .int (b2i true))]) hx hb dX1_move_143 hl (by decide) rfl (fun ls hl => ?_)
              refine lv_aload_n hx hb dX1_move_145 rfl (lv_at hl 7 rfl) ?_
              refine lv_iload_n hx hb dX1_move_146 rfl (lv_at hl 6 rfl) ?_
              refine lv_iload hx hb dX1_move_147 (lv_at hl 1 rfl) ?_
              refine lv_iload hx hb dX1_move_149 (lv_at hl 0 rfl) ?_
              have hFc := va_free (wc := WM k0 kv ko ks km kt kp kb cZ cD cI th mv io sz mk se pv pd op mw) hD hS hA [0, 1, 2, 3, 4, 5, 6, 7] rfl
              refine wr_calli (va_runV (As := [.int (b2i false), .int (b2i false), .int (b2i true)]) (rest := []) ⟨hx, hb, hml, hown, hts⟩ (c_X1_throwing l D k0 kv ko ks km kt kp kb cZ cD cI th mv io sz mk se pv pd op mw hsz s.heap.size false false true ) (cwV 3 hts gX1_move_X1_throwing rfl rfl rfl (by decide +kernel) ⟨Nat.le_of_ble_eq_true rfl, Nat.le_of_ble_eq_true rfl⟩) ⟨fun a U g mk q => ⟨q.1, q.2.1, q.2.2.1, va_K.moved (u := U) (U := U.calling g mk a) (Vm.Alike.refl U.vm) q.2.2.2.1, q.2.2.2.2⟩, va_recv hK hP (ci := 2) (q0 := 0) rfl rfl, fun U hU hW => ⟨rfl, by rw [hU], by rw [hU]; exact hP, va_K.moved hW.alike hK, hD.weaken (fun _ _ _ _ => trivial)⟩⟩ rfl rfl hl.1 rfl (lv_room (Nat.le_of_ble_eq_true rfl)) dX1_move_151 ⟨Nat.le_of_ble_eq_true rfl, Nat.le_of_ble_eq_true rfl⟩) hS hFc (fun r_41 H locs hr_41 hP _ _ hS => ?_)
              subst hr_41
              refine kt_i (y := b2i true) rfl ?_
              have hD : va_D A (WM k0 kv ko ks km kt kp kb cZ cD cI (thr false false true) mv io sz mk se pv pd op mw) := va_D_same (ws := WM k0 kv ko ks km kt kp kb cZ cD cI th mv io sz mk se pv pd op mw) rfl hD
              have hP : va_P D vwCl (WM k0 kv ko ks km kt kp kb cZ cD cI (thr false false true) mv io sz mk se pv pd op mw) H := hP
              refine kb_eq (tgt := 159) hx hb dX1_move_154 (by decide) (fun h => absurd h (by decide)) (fun _ => ?_)
              refine lv_iconst (v := nI 0) hx hb dX1_move_157 (by decide) ?_
              refine W.widen (k := 0) (n := 0) (Nat.le_of_ble_eq_true rfl) (Nat.le_of_ble_eq_true rfl) ?_
              exact W.iret (v := nI 0) hx hb hr (fun t9 ht9 hW9 => ⟨⟨_, rfl, by rw [tMo_of (A := false) (B := false) (C := true) (bnf c_1) (decide_eq_false (fun h => h c_36)) (and_t c_37 (decide_eq_true c_39))]; rfl, by rw [ht9, tMo_of (A := false) (B := false) (C := true) (bnf c_1) (decide_eq_false (fun h => h c_36)) (and_t c_37 (decide_eq_true c_39))]; exact hP⟩, hS.F ht9⟩) hS.2.2 dX1_move_158
        · refine lv_iconst (v := nI 1) hx hb dX1_move_84 (by decide) ?_
          refine lv_goto (tgt := 103) hx hb dX1_move_85 (by decide) ?_
          refine lv_istore (lv' := [(7, .int (nI 1)), (6, .int (nI (wy true (lw mv sz 2) (mk 1)))), (5, .int (nI (wy (lo io sz 0 || !se 0) (lw mv sz 0) (mk 0)))), (4, .int (nI (wy (lo io sz 3 || !se 5) (lw mv sz 3) (mk 5)))), (3, .int (nI (wy (lo io sz 0 || lo io sz 2) (lw mv sz 0) (lw mv sz 2)))), (2, .int (nI 0)), (0, .ref k0), (1, .int (b2i true))]) hx hb dX1_move_103 hl (by decide) rfl (fun ls hl => ?_)
          refine lv_iload_n hx hb dX1_move_105 rfl (lv_at hl 7 rfl) ?_
          refine kb_eq (tgt := 132) hx hb dX1_move_106 (by decide) (fun h => absurd h (by decide)) (fun _ => ?_)
          refine lv_aload_n hx hb dX1_move_109 rfl (lv_at hl 6 rfl) ?_
          refine va_get (D := D) (ci := 2) (v := .ref kt) (C := RX1) (T := TX1) (N := 10) hx hb hts hinRX1 hown hK hP 0 rfl rfl 5 (by decide) hf_24 (fun _ h9 => h9) rfl dX1_move_110 ?_
          refine lv_iconst (v := nI 5) hx hb dX1_move_113 (by decide) ?_
          refine kn_zald hx hb hK hP 5 0 rfl rfl (by omega) (by decide) dX1_move_114 ?_
          refine kb_eq (tgt := 128) hx hb dX1_move_115 (by decide) (fun c_42 => ?_) (fun c_42 => ?_)
          · refine lv_iconst (v := nI 0) hx hb dX1_move_128 (by decide) ?_
            refine lv_goto (tgt := 143) hx hb dX1_move_129 (by decide) ?_
            refine lv_istore (lv' := [(8, .int (nI 0)), (7, .int (nI 1)), (6, .int (nI (wy true (lw mv sz 2) (mk 1)))), (5, .int (nI (wy (lo io sz 0 || !se 0) (lw mv sz 0) (mk 0)))), (4, .int (nI (wy (lo io sz 3 || !se 5) (lw mv sz 3) (mk 5)))), (3, .int (nI (wy (lo io sz 0 || lo io sz 2) (lw mv sz 0) (lw mv sz 2)))), (2, .int (nI 0)), (0, .ref k0), (1, .int (b2i true))]) hx hb dX1_move_143 hl (by decide) rfl (fun ls hl => ?_)
            refine lv_aload_n hx hb dX1_move_145 rfl (lv_at hl 7 rfl) ?_
            refine lv_iload_n hx hb dX1_move_146 rfl (lv_at hl 6 rfl) ?_
            refine lv_iload hx hb dX1_move_147 (lv_at hl 1 rfl) ?_
            refine lv_iload hx hb dX1_move_149 (lv_at hl 0 rfl) ?_
            have hFc := va_free (wc := WM k0 kv ko ks km kt kp kb cZ cD cI th mv io sz mk se pv pd op mw) hD hS hA [0, 1, 2, 3, 4, 5, 6, 7] rfl
            refine wr_calli (va_runV (As := [.int (b2i false), .int (b2i true), .int (b2i false)]) (rest := []) ⟨hx, hb, hml, hown, hts⟩ (c_X1_throwing l D k0 kv ko ks km kt kp kb cZ cD cI th mv io sz mk se pv pd op mw hsz s.heap.size false true false ) (cwV 3 hts gX1_move_X1_throwing rfl rfl rfl (by decide +kernel) ⟨Nat.le_of_ble_eq_true rfl, Nat.le_of_ble_eq_true rfl⟩) ⟨fun a U g mk q => ⟨q.1, q.2.1, q.2.2.1, va_K.moved (u := U) (U := U.calling g mk a) (Vm.Alike.refl U.vm) q.2.2.2.1, q.2.2.2.2⟩, va_recv hK hP (ci := 2) (q0 := 0) rfl rfl, fun U hU hW => ⟨rfl, by rw [hU], by rw [hU]; exact hP, va_K.moved hW.alike hK, hD.weaken (fun _ _ _ _ => trivial)⟩⟩ rfl rfl hl.1 rfl (lv_room (Nat.le_of_ble_eq_true rfl)) dX1_move_151 ⟨Nat.le_of_ble_eq_true rfl, Nat.le_of_ble_eq_true rfl⟩) hS hFc (fun r_43 H locs hr_43 hP _ _ hS => ?_)
            subst hr_43
            refine kt_i (y := b2i true) rfl ?_
            have hD : va_D A (WM k0 kv ko ks km kt kp kb cZ cD cI (thr false true false) mv io sz mk se pv pd op mw) := va_D_same (ws := WM k0 kv ko ks km kt kp kb cZ cD cI th mv io sz mk se pv pd op mw) rfl hD
            have hP : va_P D vwCl (WM k0 kv ko ks km kt kp kb cZ cD cI (thr false true false) mv io sz mk se pv pd op mw) H := hP
            refine kb_eq (tgt := 159) hx hb dX1_move_154 (by decide) (fun h => absurd h (by decide)) (fun _ => ?_)
            refine lv_iconst (v := nI 0) hx hb dX1_move_157 (by decide) ?_
            refine W.widen (k := 0) (n := 0) (Nat.le_of_ble_eq_true rfl) (Nat.le_of_ble_eq_true rfl) ?_
            exact W.iret (v := nI 0) hx hb hr (fun t9 ht9 hW9 => ⟨⟨_, rfl, by rw [tMo_of (A := false) (B := true) (C := false) (bnf c_1) (decide_eq_true c_36) (and_f c_42)]; rfl, by rw [ht9, tMo_of (A := false) (B := true) (C := false) (bnf c_1) (decide_eq_true c_36) (and_f c_42)]; exact hP⟩, hS.F ht9⟩) hS.2.2 dX1_move_158
          · refine lv_iload hx hb dX1_move_118 (lv_at hl 3 rfl) ?_
            refine lv_iconst (v := nI 1) hx hb dX1_move_120 (by decide) ?_
            refine kn_icmp_eq (tgt := 128) hx hb (Nat.lt_trans (wy_lt _ _ _) (by decide)) (by decide) dX1_move_121 (by decide) (fun c_44 => ?_) (fun c_44 => ?_)
            · refine lv_iconst (v := nI 0) hx hb dX1_move_128 (by decide) ?_
              refine lv_goto (tgt := 143) hx hb dX1_move_129 (by decide) ?_
              refine lv_istore (lv' := [(8, .int (nI 0)), (7, .int (nI 1)), (6, .int (nI (wy true (lw mv sz 2) (mk 1)))), (5, .int (nI (wy (lo io sz 0 || !se 0) (lw mv sz 0) (mk 0)))), (4, .int (nI (wy (lo io sz 3 || !se 5) (lw mv sz 3) (mk 5)))), (3, .int (nI (wy (lo io sz 0 || lo io sz 2) (lw mv sz 0) (lw mv sz 2)))), (2, .int (nI 0)), (0, .ref k0), (1, .int (b2i true))]) hx hb dX1_move_143 hl (by decide) rfl (fun ls hl => ?_)
              refine lv_aload_n hx hb dX1_move_145 rfl (lv_at hl 7 rfl) ?_
              refine lv_iload_n hx hb dX1_move_146 rfl (lv_at hl 6 rfl) ?_
              refine lv_iload hx hb dX1_move_147 (lv_at hl 1 rfl) ?_
              refine lv_iload hx hb dX1_move_149 (lv_at hl 0 rfl) ?_
              have hFc := va_free (wc := WM k0 kv ko ks km kt kp kb cZ cD cI th mv io sz mk se pv pd op mw) hD hS hA [0, 1, 2, 3, 4, 5, 6, 7] rfl
              refine wr_calli (va_runV (As := [.int (b2i false), .int (b2i true), .int (b2i false)]) (rest := []) ⟨hx, hb, hml, hown, hts⟩ (c_X1_throwing l D k0 kv ko ks km kt kp kb cZ cD cI th mv io sz mk se pv pd op mw hsz s.heap.size false true false ) (cwV 3 hts gX1_move_X1_throwing rfl rfl rfl (by decide +kernel) ⟨Nat.le_of_ble_eq_true rfl, Nat.le_of_ble_eq_true rfl⟩) ⟨fun a U g mk q => ⟨q.1, q.2.1, q.2.2.1, va_K.moved (u := U) (U := U.calling g mk a) (Vm.Alike.refl U.vm) q.2.2.2.1, q.2.2.2.2⟩, va_recv hK hP (ci := 2) (q0 := 0) rfl rfl, fun U hU hW => ⟨rfl, by rw [hU], by rw [hU]; exact hP, va_K.moved hW.alike hK, hD.weaken (fun _ _ _ _ => trivial)⟩⟩ rfl rfl hl.1 rfl (lv_room (Nat.le_of_ble_eq_true rfl)) dX1_move_151 ⟨Nat.le_of_ble_eq_true rfl, Nat.le_of_ble_eq_true rfl⟩) hS hFc (fun r_45 H locs hr_45 hP _ _ hS => ?_)
              subst hr_45
              refine kt_i (y := b2i true) rfl ?_
              have hD : va_D A (WM k0 kv ko ks km kt kp kb cZ cD cI (thr false true false) mv io sz mk se pv pd op mw) := va_D_same (ws := WM k0 kv ko ks km kt kp kb cZ cD cI th mv io sz mk se pv pd op mw) rfl hD
              have hP : va_P D vwCl (WM k0 kv ko ks km kt kp kb cZ cD cI (thr false true false) mv io sz mk se pv pd op mw) H := hP
              refine kb_eq (tgt := 159) hx hb dX1_move_154 (by decide) (fun h => absurd h (by decide)) (fun _ => ?_)
              refine lv_iconst (v := nI 0) hx hb dX1_move_157 (by decide) ?_
              refine W.widen (k := 0) (n := 0) (Nat.le_of_ble_eq_true rfl) (Nat.le_of_ble_eq_true rfl) ?_
              exact W.iret (v := nI 0) hx hb hr (fun t9 ht9 hW9 => ⟨⟨_, rfl, by rw [tMo_of (A := false) (B := true) (C := false) (bnf c_1) (decide_eq_true c_36) (and_t c_42 (decide_eq_false (fun h => h c_44)))]; rfl, by rw [ht9, tMo_of (A := false) (B := true) (C := false) (bnf c_1) (decide_eq_true c_36) (and_t c_42 (decide_eq_false (fun h => h c_44)))]; exact hP⟩, hS.F ht9⟩) hS.2.2 dX1_move_158
            · refine lv_iconst (v := nI 1) hx hb dX1_move_124 (by decide) ?_
              refine lv_goto (tgt := 143) hx hb dX1_move_125 (by decide) ?_
              refine lv_istore (lv' := [(8, .int (nI 1)), (7, .int (nI 1)), (6, .int (nI (wy true (lw mv sz 2) (mk 1)))), (5, .int (nI (wy (lo io sz 0 || !se 0) (lw mv sz 0) (mk 0)))), (4, .int (nI (wy (lo io sz 3 || !se 5) (lw mv sz 3) (mk 5)))), (3, .int (nI (wy (lo io sz 0 || lo io sz 2) (lw mv sz 0) (lw mv sz 2)))), (2, .int (nI 0)), (0, .ref k0), (1, .int (b2i true))]) hx hb dX1_move_143 hl (by decide) rfl (fun ls hl => ?_)
              refine lv_aload_n hx hb dX1_move_145 rfl (lv_at hl 7 rfl) ?_
              refine lv_iload_n hx hb dX1_move_146 rfl (lv_at hl 6 rfl) ?_
              refine lv_iload hx hb dX1_move_147 (lv_at hl 1 rfl) ?_
              refine lv_iload hx hb dX1_move_149 (lv_at hl 0 rfl) ?_
              have hFc := va_free (wc := WM k0 kv ko ks km kt kp kb cZ cD cI th mv io sz mk se pv pd op mw) hD hS hA [0, 1, 2, 3, 4, 5, 6, 7] rfl
              refine wr_calli (va_runV (As := [.int (b2i false), .int (b2i true), .int (b2i true)]) (rest := []) ⟨hx, hb, hml, hown, hts⟩ (c_X1_throwing l D k0 kv ko ks km kt kp kb cZ cD cI th mv io sz mk se pv pd op mw hsz s.heap.size false true true ) (cwV 3 hts gX1_move_X1_throwing rfl rfl rfl (by decide +kernel) ⟨Nat.le_of_ble_eq_true rfl, Nat.le_of_ble_eq_true rfl⟩) ⟨fun a U g mk q => ⟨q.1, q.2.1, q.2.2.1, va_K.moved (u := U) (U := U.calling g mk a) (Vm.Alike.refl U.vm) q.2.2.2.1, q.2.2.2.2⟩, va_recv hK hP (ci := 2) (q0 := 0) rfl rfl, fun U hU hW => ⟨rfl, by rw [hU], by rw [hU]; exact hP, va_K.moved hW.alike hK, hD.weaken (fun _ _ _ _ => trivial)⟩⟩ rfl rfl hl.1 rfl (lv_room (Nat.le_of_ble_eq_true rfl)) dX1_move_151 ⟨Nat.le_of_ble_eq_true rfl, Nat.le_of_ble_eq_true rfl⟩) hS hFc (fun r_46 H locs hr_46 hP _ _ hS => ?_)
              subst hr_46
              refine kt_i (y := b2i true) rfl ?_
              have hD : va_D A (WM k0 kv ko ks km kt kp kb cZ cD cI (thr false true true) mv io sz mk se pv pd op mw) := va_D_same (ws := WM k0 kv ko ks km kt kp kb cZ cD cI th mv io sz mk se pv pd op mw) rfl hD
              have hP : va_P D vwCl (WM k0 kv ko ks km kt kp kb cZ cD cI (thr false true true) mv io sz mk se pv pd op mw) H := hP
              refine kb_eq (tgt := 159) hx hb dX1_move_154 (by decide) (fun h => absurd h (by decide)) (fun _ => ?_)
              refine lv_iconst (v := nI 0) hx hb dX1_move_157 (by decide) ?_
              refine W.widen (k := 0) (n := 0) (Nat.le_of_ble_eq_true rfl) (Nat.le_of_ble_eq_true rfl) ?_
              exact W.iret (v := nI 0) hx hb hr (fun t9 ht9 hW9 => ⟨⟨_, rfl, by rw [tMo_of (A := false) (B := true) (C := true) (bnf c_1) (decide_eq_true c_36) (and_t c_42 (decide_eq_true c_44))]; rfl, by rw [ht9, tMo_of (A := false) (B := true) (C := true) (bnf c_1) (decide_eq_true c_36) (and_t c_42 (decide_eq_true c_44))]; exact hP⟩, hS.F ht9⟩) hS.2.2 dX1_move_158
  · refine lv_iconst (v := nI 1) hx hb dX1_move_8 (by decide) ?_
    refine lv_goto (tgt := 13) hx hb dX1_move_9 (by decide) ?_
    refine lv_istore_n (lv' := [(2, .int (nI 1)), (0, .ref k0), (1, .int (b2i true))]) hx hb dX1_move_13 rfl hl (by decide) rfl (fun ls hl => ?_)
    refine lv_aload_n hx hb dX1_move_14 rfl (lv_at hl 1 rfl) ?_
    refine lv_iconst (v := nI 0) hx hb dX1_move_15 (by decide) ?_
    refine lv_iconst (v := nI 2) hx hb dX1_move_16 (by decide) ?_
    refine rd_calli (va_runV (As := [.int (nI 0), .int (nI 2)]) (rest := []) ⟨hx, hb, hml, hown, hts⟩ (c_X1_latestWay l D k0 kv ko ks km kt kp kb cZ cD cI th mv io sz mk se pv pd op mw hsz 0 2 (by omega) (by omega)) (cwV 2 hts gX1_move_X1_latestWay rfl rfl rfl (by decide +kernel) ⟨Nat.le_of_ble_eq_true rfl, Nat.le_of_ble_eq_true rfl⟩) ⟨fun a U g mk q => ⟨q.1, q.2.1, va_K.moved (u := U) (U := U.calling g mk a) (Vm.Alike.refl U.vm) q.2.2⟩, va_recv hK hP (ci := 2) (q0 := 0) rfl rfl, fun U hU hW => ⟨rfl, by rw [hU]; exact hP, va_K.moved hW.alike hK⟩⟩ rfl rfl hl.1 rfl (lv_room (Nat.le_of_ble_eq_true rfl)) dX1_move_17 ⟨Nat.le_of_ble_eq_true rfl, Nat.le_of_ble_eq_true rfl⟩) (fun r_47 hr_47 => ?_)
    subst hr_47
    refine lv_istore_n (lv' := [(3, .int (nI (wy (lo io sz 0 || lo io sz 2) (lw mv sz 0) (lw mv sz 2)))), (2, .int (nI 1)), (0, .ref k0), (1, .int (b2i true))]) hx hb dX1_move_20 rfl hl (by decide) rfl (fun ls hl => ?_)
    refine lv_aload_n hx hb dX1_move_21 rfl (lv_at hl 2 rfl) ?_
    refine lv_iconst (v := nI 3) hx hb dX1_move_22 (by decide) ?_
    refine lv_iconst (v := nI 5) hx hb dX1_move_23 (by decide) ?_
    refine rd_calli (va_runV (As := [.int (nI 3), .int (nI 5)]) (rest := []) ⟨hx, hb, hml, hown, hts⟩ (c_X1_markWay l D k0 kv ko ks km kt kp kb cZ cD cI th mv io sz mk se pv pd op mw hsz 3 5 (by omega) (by omega)) (cwV 2 hts gX1_move_X1_markWay rfl rfl rfl (by decide +kernel) ⟨Nat.le_of_ble_eq_true rfl, Nat.le_of_ble_eq_true rfl⟩) ⟨fun a U g mk q => ⟨q.1, q.2.1, va_K.moved (u := U) (U := U.calling g mk a) (Vm.Alike.refl U.vm) q.2.2⟩, va_recv hK hP (ci := 2) (q0 := 0) rfl rfl, fun U hU hW => ⟨rfl, by rw [hU]; exact hP, va_K.moved hW.alike hK⟩⟩ rfl rfl hl.1 rfl (lv_room (Nat.le_of_ble_eq_true rfl)) dX1_move_24 ⟨Nat.le_of_ble_eq_true rfl, Nat.le_of_ble_eq_true rfl⟩) (fun r_48 hr_48 => ?_)
    subst hr_48
    refine lv_istore (lv' := [(4, .int (nI (wy (lo io sz 3 || !se 5) (lw mv sz 3) (mk 5)))), (3, .int (nI (wy (lo io sz 0 || lo io sz 2) (lw mv sz 0) (lw mv sz 2)))), (2, .int (nI 1)), (0, .ref k0), (1, .int (b2i true))]) hx hb dX1_move_27 hl (by decide) rfl (fun ls hl => ?_)
    refine lv_aload_n hx hb dX1_move_29 rfl (lv_at hl 3 rfl) ?_
    refine lv_iconst (v := nI 0) hx hb dX1_move_30 (by decide) ?_
    refine lv_iconst (v := nI 0) hx hb dX1_move_31 (by decide) ?_
    refine rd_calli (va_runV (As := [.int (nI 0), .int (nI 0)]) (rest := []) ⟨hx, hb, hml, hown, hts⟩ (c_X1_markWay l D k0 kv ko ks km kt kp kb cZ cD cI th mv io sz mk se pv pd op mw hsz 0 0 (by omega) (by omega)) (cwV 2 hts gX1_move_X1_markWay rfl rfl rfl (by decide +kernel) ⟨Nat.le_of_ble_eq_true rfl, Nat.le_of_ble_eq_true rfl⟩) ⟨fun a U g mk q => ⟨q.1, q.2.1, va_K.moved (u := U) (U := U.calling g mk a) (Vm.Alike.refl U.vm) q.2.2⟩, va_recv hK hP (ci := 2) (q0 := 0) rfl rfl, fun U hU hW => ⟨rfl, by rw [hU]; exact hP, va_K.moved hW.alike hK⟩⟩ rfl rfl hl.1 rfl (lv_room (Nat.le_of_ble_eq_true rfl)) dX1_move_32 ⟨Nat.le_of_ble_eq_true rfl, Nat.le_of_ble_eq_true rfl⟩) (fun r_49 hr_49 => ?_)
    subst hr_49
    refine lv_istore (lv' := [(5, .int (nI (wy (lo io sz 0 || !se 0) (lw mv sz 0) (mk 0)))), (4, .int (nI (wy (lo io sz 3 || !se 5) (lw mv sz 3) (mk 5)))), (3, .int (nI (wy (lo io sz 0 || lo io sz 2) (lw mv sz 0) (lw mv sz 2)))), (2, .int (nI 1)), (0, .ref k0), (1, .int (b2i true))]) hx hb dX1_move_35 hl (by decide) rfl (fun ls hl => ?_)
    refine lv_aload_n hx hb dX1_move_37 rfl (lv_at hl 4 rfl) ?_
    refine lv_iconst (v := nI 2) hx hb dX1_move_38 (by decide) ?_
    refine rd_calli (va_runV (As := [.int (nI 2)]) (rest := []) ⟨hx, hb, hml, hown, hts⟩ (c_X1_latestOut l D k0 kv ko ks km kt kp kb cZ cD cI th mv io sz mk se pv pd op mw hsz 2 (by omega)) (cwV 1 hts gX1_move_X1_latestOut rfl rfl rfl (by decide +kernel) ⟨Nat.le_of_ble_eq_true rfl, Nat.le_of_ble_eq_true rfl⟩) ⟨fun a U g mk q => ⟨q.1, q.2.1, va_K.moved (u := U) (U := U.calling g mk a) (Vm.Alike.refl U.vm) q.2.2⟩, va_recv hK hP (ci := 2) (q0 := 0) rfl rfl, fun U hU hW => ⟨rfl, by rw [hU]; exact hP, va_K.moved hW.alike hK⟩⟩ rfl rfl hl.1 rfl (lv_room (Nat.le_of_ble_eq_true rfl)) dX1_move_39 ⟨Nat.le_of_ble_eq_true rfl, Nat.le_of_ble_eq_true rfl⟩) (fun r_50 hr_50 => ?_)
    subst hr_50
    refine kb_ne (tgt := 54) hx hb dX1_move_42 (by decide) (fun c_51 => ?_) (fun c_51 => ?_)
    · refine lv_iconst (v := nI 1) hx hb dX1_move_54 (by decide) ?_
      refine lv_goto (tgt := 59) hx hb dX1_move_55 (by decide) ?_
      refine lv_aload_n hx hb dX1_move_59 rfl (lv_at hl 4 rfl) ?_
      refine lv_iconst (v := nI 2) hx hb dX1_move_60 (by decide) ?_
      refine rd_calld (va_runV (As := [.int (nI 2)]) (rest := [.int (nI 1)]) ⟨hx, hb, hml, hown, hts⟩ (c_X1_latestValue l D k0 kv ko ks km kt kp kb cZ cD cI th mv io sz mk se pv pd op mw hsz 2 (by omega)) (cwV 1 hts gX1_move_X1_latestValue rfl rfl rfl (by decide +kernel) ⟨Nat.le_of_ble_eq_true rfl, Nat.le_of_ble_eq_true rfl⟩) ⟨fun a U g mk q => ⟨q.1, q.2.1, va_K.moved (u := U) (U := U.calling g mk a) (Vm.Alike.refl U.vm) q.2.2⟩, va_recv hK hP (ci := 2) (q0 := 0) rfl rfl, fun U hU hW => ⟨rfl, by rw [hU]; exact hP, va_K.moved hW.alike hK⟩⟩ rfl rfl hl.1 rfl (lv_room (Nat.le_of_ble_eq_true rfl)) dX1_move_61 ⟨Nat.le_of_ble_eq_true rfl, Nat.le_of_ble_eq_true rfl⟩) (fun r_52 hr_52 => ?_)
      subst hr_52
      refine lv_aload_n hx hb dX1_move_64 rfl (lv_at hl 4 rfl) ?_
      refine va_get (D := D) (ci := 2) (v := .ref km) (C := RX1) (T := TX1) (N := 10) hx hb hts hinRX1 hown hK hP 0 rfl rfl 4 (by decide) hf_21 (fun _ h9 => h9) rfl dX1_move_65 ?_
      refine lv_iconst (v := nI 1) hx hb dX1_move_68 (by decide) ?_
      refine kn_dald hx hb hK hP 4 1 rfl rfl (by omega) (by decide) dX1_move_69 ?_
      refine rd_calli (va_runS (As := [.int (b2i true), .double (lw mv sz 2), .double (mk 1)]) (rest := []) ⟨hx, hb, hml, hown, hts⟩ (c_X1_way l true (lw mv sz 2) (mk 1) ) (va_cwS 3 hts gX1_move_X1_way rfl rfl rfl (by decide +kernel) ⟨Nat.le_of_ble_eq_true rfl, Nat.le_of_ble_eq_true rfl⟩) ⟨fun a U g mk q => q, fun U hU hW => ⟨rfl, trivial⟩⟩ rfl rfl hl.1 rfl (lv_room (Nat.le_of_ble_eq_true rfl)) dX1_move_70 ⟨Nat.le_of_ble_eq_true rfl, Nat.le_of_ble_eq_true rfl⟩) (fun r_53 hr_53 => ?_)
      subst hr_53
      refine lv_istore (lv' := [(6, .int (nI (wy true (lw mv sz 2) (mk 1)))), (5, .int (nI (wy (lo io sz 0 || !se 0) (lw mv sz 0) (mk 0)))), (4, .int (nI (wy (lo io sz 3 || !se 5) (lw mv sz 3) (mk 5)))), (3, .int (nI (wy (lo io sz 0 || lo io sz 2) (lw mv sz 0) (lw mv sz 2)))), (2, .int (nI 1)), (0, .ref k0), (1, .int (b2i true))]) hx hb dX1_move_73 hl (by decide) rfl (fun ls hl => ?_)
      refine lv_iload_n hx hb dX1_move_75 rfl (lv_at hl 6 rfl) ?_
      refine kb_eq (tgt := 92) hx hb dX1_move_76 (by decide) (fun h => absurd h (by decide)) (fun _ => ?_)
      refine lv_iload_n hx hb dX1_move_79 rfl (lv_at hl 3 rfl) ?_
      refine lv_iconst (v := nI 4) hx hb dX1_move_80 (by decide) ?_
      refine kn_icmp_eq (tgt := 88) hx hb (Nat.lt_trans (wy_lt _ _ _) (by decide)) (by decide) dX1_move_81 (by decide) (fun c_54 => ?_) (fun c_54 => ?_)
      · refine lv_iconst (v := nI 0) hx hb dX1_move_88 (by decide) ?_
        refine lv_goto (tgt := 103) hx hb dX1_move_89 (by decide) ?_
        refine lv_istore (lv' := [(7, .int (nI 0)), (6, .int (nI (wy true (lw mv sz 2) (mk 1)))), (5, .int (nI (wy (lo io sz 0 || !se 0) (lw mv sz 0) (mk 0)))), (4, .int (nI (wy (lo io sz 3 || !se 5) (lw mv sz 3) (mk 5)))), (3, .int (nI (wy (lo io sz 0 || lo io sz 2) (lw mv sz 0) (lw mv sz 2)))), (2, .int (nI 1)), (0, .ref k0), (1, .int (b2i true))]) hx hb dX1_move_103 hl (by decide) rfl (fun ls hl => ?_)
        refine lv_iload_n hx hb dX1_move_105 rfl (lv_at hl 7 rfl) ?_
        refine kb_eq (tgt := 132) hx hb dX1_move_106 (by decide) (fun h => absurd h (by decide)) (fun _ => ?_)
        refine lv_aload_n hx hb dX1_move_109 rfl (lv_at hl 6 rfl) ?_
        refine va_get (D := D) (ci := 2) (v := .ref kt) (C := RX1) (T := TX1) (N := 10) hx hb hts hinRX1 hown hK hP 0 rfl rfl 5 (by decide) hf_24 (fun _ h9 => h9) rfl dX1_move_110 ?_
        refine lv_iconst (v := nI 5) hx hb dX1_move_113 (by decide) ?_
        refine kn_zald hx hb hK hP 5 0 rfl rfl (by omega) (by decide) dX1_move_114 ?_
        refine kb_eq (tgt := 128) hx hb dX1_move_115 (by decide) (fun c_55 => ?_) (fun c_55 => ?_)
        · refine lv_iconst (v := nI 0) hx hb dX1_move_128 (by decide) ?_
          refine lv_goto (tgt := 143) hx hb dX1_move_129 (by decide) ?_
          refine lv_istore (lv' := [(8, .int (nI 0)), (7, .int (nI 0)), (6, .int (nI (wy true (lw mv sz 2) (mk 1)))), (5, .int (nI (wy (lo io sz 0 || !se 0) (lw mv sz 0) (mk 0)))), (4, .int (nI (wy (lo io sz 3 || !se 5) (lw mv sz 3) (mk 5)))), (3, .int (nI (wy (lo io sz 0 || lo io sz 2) (lw mv sz 0) (lw mv sz 2)))), (2, .int (nI 1)), (0, .ref k0), (1, .int (b2i true))]) hx hb dX1_move_143 hl (by decide) rfl (fun ls hl => ?_)
          refine lv_aload_n hx hb dX1_move_145 rfl (lv_at hl 7 rfl) ?_
          refine lv_iload_n hx hb dX1_move_146 rfl (lv_at hl 6 rfl) ?_
          refine lv_iload hx hb dX1_move_147 (lv_at hl 1 rfl) ?_
          refine lv_iload hx hb dX1_move_149 (lv_at hl 0 rfl) ?_
          have hFc := va_free (wc := WM k0 kv ko ks km kt kp kb cZ cD cI th mv io sz mk se pv pd op mw) hD hS hA [0, 1, 2, 3, 4, 5, 6, 7] rfl
          refine wr_calli (va_runV (As := [.int (b2i true), .int (b2i false), .int (b2i false)]) (rest := []) ⟨hx, hb, hml, hown, hts⟩ (c_X1_throwing l D k0 kv ko ks km kt kp kb cZ cD cI th mv io sz mk se pv pd op mw hsz s.heap.size true false false ) (cwV 3 hts gX1_move_X1_throwing rfl rfl rfl (by decide +kernel) ⟨Nat.le_of_ble_eq_true rfl, Nat.le_of_ble_eq_true rfl⟩) ⟨fun a U g mk q => ⟨q.1, q.2.1, q.2.2.1, va_K.moved (u := U) (U := U.calling g mk a) (Vm.Alike.refl U.vm) q.2.2.2.1, q.2.2.2.2⟩, va_recv hK hP (ci := 2) (q0 := 0) rfl rfl, fun U hU hW => ⟨rfl, by rw [hU], by rw [hU]; exact hP, va_K.moved hW.alike hK, hD.weaken (fun _ _ _ _ => trivial)⟩⟩ rfl rfl hl.1 rfl (lv_room (Nat.le_of_ble_eq_true rfl)) dX1_move_151 ⟨Nat.le_of_ble_eq_true rfl, Nat.le_of_ble_eq_true rfl⟩) hS hFc (fun r_56 H locs hr_56 hP _ _ hS => ?_)
          subst hr_56
          refine kt_i (y := b2i true) rfl ?_
          have hD : va_D A (WM k0 kv ko ks km kt kp kb cZ cD cI (thr true false false) mv io sz mk se pv pd op mw) := va_D_same (ws := WM k0 kv ko ks km kt kp kb cZ cD cI th mv io sz mk se pv pd op mw) rfl hD
          have hP : va_P D vwCl (WM k0 kv ko ks km kt kp kb cZ cD cI (thr true false false) mv io sz mk se pv pd op mw) H := hP
          refine kb_eq (tgt := 159) hx hb dX1_move_154 (by decide) (fun h => absurd h (by decide)) (fun _ => ?_)
          refine lv_iconst (v := nI 0) hx hb dX1_move_157 (by decide) ?_
          refine W.widen (k := 0) (n := 0) (Nat.le_of_ble_eq_true rfl) (Nat.le_of_ble_eq_true rfl) ?_
          exact W.iret (v := nI 0) hx hb hr (fun t9 ht9 hW9 => ⟨⟨_, rfl, by rw [tMo_of (A := true) (B := false) (C := false) (c_1) (decide_eq_false (fun h => h c_54)) (and_f c_55)]; rfl, by rw [ht9, tMo_of (A := true) (B := false) (C := false) (c_1) (decide_eq_false (fun h => h c_54)) (and_f c_55)]; exact hP⟩, hS.F ht9⟩) hS.2.2 dX1_move_158
        · refine lv_iload hx hb dX1_move_118 (lv_at hl 3 rfl) ?_
          refine lv_iconst (v := nI 1) hx hb dX1_move_120 (by decide) ?_
          refine kn_icmp_eq (tgt := 128) hx hb (Nat.lt_trans (wy_lt _ _ _) (by decide)) (by decide) dX1_move_121 (by decide) (fun c_57 => ?_) (fun c_57 => ?_)
          · refine lv_iconst (v := nI 0) hx hb dX1_move_128 (by decide) ?_
            refine lv_goto (tgt := 143) hx hb dX1_move_129 (by decide) ?_
            refine lv_istore (lv' := [(8, .int (nI 0)), (7, .int (nI 0)), (6, .int (nI (wy true (lw mv sz 2) (mk 1)))), (5, .int (nI (wy (lo io sz 0 || !se 0) (lw mv sz 0) (mk 0)))), (4, .int (nI (wy (lo io sz 3 || !se 5) (lw mv sz 3) (mk 5)))), (3, .int (nI (wy (lo io sz 0 || lo io sz 2) (lw mv sz 0) (lw mv sz 2)))), (2, .int (nI 1)), (0, .ref k0), (1, .int (b2i true))]) hx hb dX1_move_143 hl (by decide) rfl (fun ls hl => ?_)
            refine lv_aload_n hx hb dX1_move_145 rfl (lv_at hl 7 rfl) ?_
            refine lv_iload_n hx hb dX1_move_146 rfl (lv_at hl 6 rfl) ?_
            refine lv_iload hx hb dX1_move_147 (lv_at hl 1 rfl) ?_
            refine lv_iload hx hb dX1_move_149 (lv_at hl 0 rfl) ?_
            have hFc := va_free (wc := WM k0 kv ko ks km kt kp kb cZ cD cI th mv io sz mk se pv pd op mw) hD hS hA [0, 1, 2, 3, 4, 5, 6, 7] rfl
            refine wr_calli (va_runV (As := [.int (b2i true), .int (b2i false), .int (b2i false)]) (rest := []) ⟨hx, hb, hml, hown, hts⟩ (c_X1_throwing l D k0 kv ko ks km kt kp kb cZ cD cI th mv io sz mk se pv pd op mw hsz s.heap.size true false false ) (cwV 3 hts gX1_move_X1_throwing rfl rfl rfl (by decide +kernel) ⟨Nat.le_of_ble_eq_true rfl, Nat.le_of_ble_eq_true rfl⟩) ⟨fun a U g mk q => ⟨q.1, q.2.1, q.2.2.1, va_K.moved (u := U) (U := U.calling g mk a) (Vm.Alike.refl U.vm) q.2.2.2.1, q.2.2.2.2⟩, va_recv hK hP (ci := 2) (q0 := 0) rfl rfl, fun U hU hW => ⟨rfl, by rw [hU], by rw [hU]; exact hP, va_K.moved hW.alike hK, hD.weaken (fun _ _ _ _ => trivial)⟩⟩ rfl rfl hl.1 rfl (lv_room (Nat.le_of_ble_eq_true rfl)) dX1_move_151 ⟨Nat.le_of_ble_eq_true rfl, Nat.le_of_ble_eq_true rfl⟩) hS hFc (fun r_58 H locs hr_58 hP _ _ hS => ?_)
            subst hr_58
            refine kt_i (y := b2i true) rfl ?_
            have hD : va_D A (WM k0 kv ko ks km kt kp kb cZ cD cI (thr true false false) mv io sz mk se pv pd op mw) := va_D_same (ws := WM k0 kv ko ks km kt kp kb cZ cD cI th mv io sz mk se pv pd op mw) rfl hD
            have hP : va_P D vwCl (WM k0 kv ko ks km kt kp kb cZ cD cI (thr true false false) mv io sz mk se pv pd op mw) H := hP
            refine kb_eq (tgt := 159) hx hb dX1_move_154 (by decide) (fun h => absurd h (by decide)) (fun _ => ?_)
            refine lv_iconst (v := nI 0) hx hb dX1_move_157 (by decide) ?_
            refine W.widen (k := 0) (n := 0) (Nat.le_of_ble_eq_true rfl) (Nat.le_of_ble_eq_true rfl) ?_
            exact W.iret (v := nI 0) hx hb hr (fun t9 ht9 hW9 => ⟨⟨_, rfl, by rw [tMo_of (A := true) (B := false) (C := false) (c_1) (decide_eq_false (fun h => h c_54)) (and_t c_55 (decide_eq_false (fun h => h c_57)))]; rfl, by rw [ht9, tMo_of (A := true) (B := false) (C := false) (c_1) (decide_eq_false (fun h => h c_54)) (and_t c_55 (decide_eq_false (fun h => h c_57)))]; exact hP⟩, hS.F ht9⟩) hS.2.2 dX1_move_158
          · refine lv_iconst (v := nI 1) hx hb dX1_move_124 (by decide) ?_
            refine lv_goto (tgt := 143) hx hb dX1_move_125 (by decide) ?_
            refine lv_istore (lv' := [(8, .int (nI 1)), (7, .int (nI 0)), (6, .int (nI (wy true (lw mv sz 2) (mk 1)))), (5, .int (nI (wy (lo io sz 0 || !se 0) (lw mv sz 0) (mk 0)))), (4, .int (nI (wy (lo io sz 3 || !se 5) (lw mv sz 3) (mk 5)))), (3, .int (nI (wy (lo io sz 0 || lo io sz 2) (lw mv sz 0) (lw mv sz 2)))), (2, .int (nI 1)), (0, .ref k0), (1, .int (b2i true))]) hx hb dX1_move_143 hl (by decide) rfl (fun ls hl => ?_)
            refine lv_aload_n hx hb dX1_move_145 rfl (lv_at hl 7 rfl) ?_
            refine lv_iload_n hx hb dX1_move_146 rfl (lv_at hl 6 rfl) ?_
            refine lv_iload hx hb dX1_move_147 (lv_at hl 1 rfl) ?_
            refine lv_iload hx hb dX1_move_149 (lv_at hl 0 rfl) ?_
            have hFc := va_free (wc := WM k0 kv ko ks km kt kp kb cZ cD cI th mv io sz mk se pv pd op mw) hD hS hA [0, 1, 2, 3, 4, 5, 6, 7] rfl
            refine wr_calli (va_runV (As := [.int (b2i true), .int (b2i false), .int (b2i true)]) (rest := []) ⟨hx, hb, hml, hown, hts⟩ (c_X1_throwing l D k0 kv ko ks km kt kp kb cZ cD cI th mv io sz mk se pv pd op mw hsz s.heap.size true false true ) (cwV 3 hts gX1_move_X1_throwing rfl rfl rfl (by decide +kernel) ⟨Nat.le_of_ble_eq_true rfl, Nat.le_of_ble_eq_true rfl⟩) ⟨fun a U g mk q => ⟨q.1, q.2.1, q.2.2.1, va_K.moved (u := U) (U := U.calling g mk a) (Vm.Alike.refl U.vm) q.2.2.2.1, q.2.2.2.2⟩, va_recv hK hP (ci := 2) (q0 := 0) rfl rfl, fun U hU hW => ⟨rfl, by rw [hU], by rw [hU]; exact hP, va_K.moved hW.alike hK, hD.weaken (fun _ _ _ _ => trivial)⟩⟩ rfl rfl hl.1 rfl (lv_room (Nat.le_of_ble_eq_true rfl)) dX1_move_151 ⟨Nat.le_of_ble_eq_true rfl, Nat.le_of_ble_eq_true rfl⟩) hS hFc (fun r_59 H locs hr_59 hP _ _ hS => ?_)
            subst hr_59
            refine kt_i (y := b2i true) rfl ?_
            have hD : va_D A (WM k0 kv ko ks km kt kp kb cZ cD cI (thr true false true) mv io sz mk se pv pd op mw) := va_D_same (ws := WM k0 kv ko ks km kt kp kb cZ cD cI th mv io sz mk se pv pd op mw) rfl hD
            have hP : va_P D vwCl (WM k0 kv ko ks km kt kp kb cZ cD cI (thr true false true) mv io sz mk se pv pd op mw) H := hP
            refine kb_eq (tgt := 159) hx hb dX1_move_154 (by decide) (fun h => absurd h (by decide)) (fun _ => ?_)
            refine lv_iconst (v := nI 0) hx hb dX1_move_157 (by decide) ?_
            refine W.widen (k := 0) (n := 0) (Nat.le_of_ble_eq_true rfl) (Nat.le_of_ble_eq_true rfl) ?_
            exact W.iret (v := nI 0) hx hb hr (fun t9 ht9 hW9 => ⟨⟨_, rfl, by rw [tMo_of (A := true) (B := false) (C := true) (c_1) (decide_eq_false (fun h => h c_54)) (and_t c_55 (decide_eq_true c_57))]; rfl, by rw [ht9, tMo_of (A := true) (B := false) (C := true) (c_1) (decide_eq_false (fun h => h c_54)) (and_t c_55 (decide_eq_true c_57))]; exact hP⟩, hS.F ht9⟩) hS.2.2 dX1_move_158
      · refine lv_iconst (v := nI 1) hx hb dX1_move_84 (by decide) ?_
        refine lv_goto (tgt := 103) hx hb dX1_move_85 (by decide) ?_
        refine lv_istore (lv' := [(7, .int (nI 1)), (6, .int (nI (wy true (lw mv sz 2) (mk 1)))), (5, .int (nI (wy (lo io sz 0 || !se 0) (lw mv sz 0) (mk 0)))), (4, .int (nI (wy (lo io sz 3 || !se 5) (lw mv sz 3) (mk 5)))), (3, .int (nI (wy (lo io sz 0 || lo io sz 2) (lw mv sz 0) (lw mv sz 2)))), (2, .int (nI 1)), (0, .ref k0), (1, .int (b2i true))]) hx hb dX1_move_103 hl (by decide) rfl (fun ls hl => ?_)
        refine lv_iload_n hx hb dX1_move_105 rfl (lv_at hl 7 rfl) ?_
        refine kb_eq (tgt := 132) hx hb dX1_move_106 (by decide) (fun h => absurd h (by decide)) (fun _ => ?_)
        refine lv_aload_n hx hb dX1_move_109 rfl (lv_at hl 6 rfl) ?_
        refine va_get (D := D) (ci := 2) (v := .ref kt) (C := RX1) (T := TX1) (N := 10) hx hb hts hinRX1 hown hK hP 0 rfl rfl 5 (by decide) hf_24 (fun _ h9 => h9) rfl dX1_move_110 ?_
        refine lv_iconst (v := nI 5) hx hb dX1_move_113 (by decide) ?_
        refine kn_zald hx hb hK hP 5 0 rfl rfl (by omega) (by decide) dX1_move_114 ?_
        refine kb_eq (tgt := 128) hx hb dX1_move_115 (by decide) (fun c_60 => ?_) (fun c_60 => ?_)
        · refine lv_iconst (v := nI 0) hx hb dX1_move_128 (by decide) ?_
          refine lv_goto (tgt := 143) hx hb dX1_move_129 (by decide) ?_
          refine lv_istore (lv' := [(8, .int (nI 0)), (7, .int (nI 1)), (6, .int (nI (wy true (lw mv sz 2) (mk 1)))), (5, .int (nI (wy (lo io sz 0 || !se 0) (lw mv sz 0) (mk 0)))), (4, .int (nI (wy (lo io sz 3 || !se 5) (lw mv sz 3) (mk 5)))), (3, .int (nI (wy (lo io sz 0 || lo io sz 2) (lw mv sz 0) (lw mv sz 2)))), (2, .int (nI 1)), (0, .ref k0), (1, .int (b2i true))]) hx hb dX1_move_143 hl (by decide) rfl (fun ls hl => ?_)
          refine lv_aload_n hx hb dX1_move_145 rfl (lv_at hl 7 rfl) ?_
          refine lv_iload_n hx hb dX1_move_146 rfl (lv_at hl 6 rfl) ?_
          refine lv_iload hx hb dX1_move_147 (lv_at hl 1 rfl) ?_
          refine lv_iload hx hb dX1_move_149 (lv_at hl 0 rfl) ?_
          have hFc := va_free (wc := WM k0 kv ko ks km kt kp kb cZ cD cI th mv io sz mk se pv pd op mw) hD hS hA [0, 1, 2, 3, 4, 5, 6, 7] rfl
          refine wr_calli (va_runV (As := [.int (b2i true), .int (b2i true), .int (b2i false)]) (rest := []) ⟨hx, hb, hml, hown, hts⟩ (c_X1_throwing l D k0 kv ko ks km kt kp kb cZ cD cI th mv io sz mk se pv pd op mw hsz s.heap.size true true false ) (cwV 3 hts gX1_move_X1_throwing rfl rfl rfl (by decide +kernel) ⟨Nat.le_of_ble_eq_true rfl, Nat.le_of_ble_eq_true rfl⟩) ⟨fun a U g mk q => ⟨q.1, q.2.1, q.2.2.1, va_K.moved (u := U) (U := U.calling g mk a) (Vm.Alike.refl U.vm) q.2.2.2.1, q.2.2.2.2⟩, va_recv hK hP (ci := 2) (q0 := 0) rfl rfl, fun U hU hW => ⟨rfl, by rw [hU], by rw [hU]; exact hP, va_K.moved hW.alike hK, hD.weaken (fun _ _ _ _ => trivial)⟩⟩ rfl rfl hl.1 rfl (lv_room (Nat.le_of_ble_eq_true rfl)) dX1_move_151 ⟨Nat.le_of_ble_eq_true rfl, Nat.le_of_ble_eq_true rfl⟩) hS hFc (fun r_61 H locs hr_61 hP _ _ hS => ?_)
          subst hr_61
          refine kt_i (y := b2i true) rfl ?_
          have hD : va_D A (WM k0 kv ko ks km kt kp kb cZ cD cI (thr true true false) mv io sz mk se pv pd op mw) := va_D_same (ws := WM k0 kv ko ks km kt kp kb cZ cD cI th mv io sz mk se pv pd op mw) rfl hD
          have hP : va_P D vwCl (WM k0 kv ko ks km kt kp kb cZ cD cI (thr true true false) mv io sz mk se pv pd op mw) H := hP
          refine kb_eq (tgt := 159) hx hb dX1_move_154 (by decide) (fun h => absurd h (by decide)) (fun _ => ?_)
          refine lv_iconst (v := nI 0) hx hb dX1_move_157 (by decide) ?_
          refine W.widen (k := 0) (n := 0) (Nat.le_of_ble_eq_true rfl) (Nat.le_of_ble_eq_true rfl) ?_
          exact W.iret (v := nI 0) hx hb hr (fun t9 ht9 hW9 => ⟨⟨_, rfl, by rw [tMo_of (A := true) (B := true) (C := false) (c_1) (decide_eq_true c_54) (and_f c_60)]; rfl, by rw [ht9, tMo_of (A := true) (B := true) (C := false) (c_1) (decide_eq_true c_54) (and_f c_60)]; exact hP⟩, hS.F ht9⟩) hS.2.2 dX1_move_158
        · refine lv_iload hx hb dX1_move_118 (lv_at hl 3 rfl) ?_
          refine lv_iconst (v := nI 1) hx hb dX1_move_120 (by decide) ?_
          refine kn_icmp_eq (tgt := 128) hx hb (Nat.lt_trans (wy_lt _ _ _) (by decide)) (by decide) dX1_move_121 (by decide) (fun c_62 => ?_) (fun c_62 => ?_)
          · refine lv_iconst (v := nI 0) hx hb dX1_move_128 (by decide) ?_
            refine lv_goto (tgt := 143) hx hb dX1_move_129 (by decide) ?_
            refine lv_istore (lv' := [(8, .int (nI 0)), (7, .int (nI 1)), (6, .int (nI (wy true (lw mv sz 2) (mk 1)))), (5, .int (nI (wy (lo io sz 0 || !se 0) (lw mv sz 0) (mk 0)))), (4, .int (nI (wy (lo io sz 3 || !se 5) (lw mv sz 3) (mk 5)))), (3, .int (nI (wy (lo io sz 0 || lo io sz 2) (lw mv sz 0) (lw mv sz 2)))), (2, .int (nI 1)), (0, .ref k0), (1, .int (b2i true))]) hx hb dX1_move_143 hl (by decide) rfl (fun ls hl => ?_)
            refine lv_aload_n hx hb dX1_move_145 rfl (lv_at hl 7 rfl) ?_
            refine lv_iload_n hx hb dX1_move_146 rfl (lv_at hl 6 rfl) ?_
            refine lv_iload hx hb dX1_move_147 (lv_at hl 1 rfl) ?_
            refine lv_iload hx hb dX1_move_149 (lv_at hl 0 rfl) ?_
            have hFc := va_free (wc := WM k0 kv ko ks km kt kp kb cZ cD cI th mv io sz mk se pv pd op mw) hD hS hA [0, 1, 2, 3, 4, 5, 6, 7] rfl
            refine wr_calli (va_runV (As := [.int (b2i true), .int (b2i true), .int (b2i false)]) (rest := []) ⟨hx, hb, hml, hown, hts⟩ (c_X1_throwing l D k0 kv ko ks km kt kp kb cZ cD cI th mv io sz mk se pv pd op mw hsz s.heap.size true true false ) (cwV 3 hts gX1_move_X1_throwing rfl rfl rfl (by decide +kernel) ⟨Nat.le_of_ble_eq_true rfl, Nat.le_of_ble_eq_true rfl⟩) ⟨fun a U g mk q => ⟨q.1, q.2.1, q.2.2.1, va_K.moved (u := U) (U := U.calling g mk a) (Vm.Alike.refl U.vm) q.2.2.2.1, q.2.2.2.2⟩, va_recv hK hP (ci := 2) (q0 := 0) rfl rfl, fun U hU hW => ⟨rfl, by rw [hU], by rw [hU]; exact hP, va_K.moved hW.alike hK, hD.weaken (fun _ _ _ _ => trivial)⟩⟩ rfl rfl hl.1 rfl (lv_room (Nat.le_of_ble_eq_true rfl)) dX1_move_151 ⟨Nat.le_of_ble_eq_true rfl, Nat.le_of_ble_eq_true rfl⟩) hS hFc (fun r_63 H locs hr_63 hP _ _ hS => ?_)
            subst hr_63
            refine kt_i (y := b2i true) rfl ?_
            have hD : va_D A (WM k0 kv ko ks km kt kp kb cZ cD cI (thr true true false) mv io sz mk se pv pd op mw) := va_D_same (ws := WM k0 kv ko ks km kt kp kb cZ cD cI th mv io sz mk se pv pd op mw) rfl hD
            have hP : va_P D vwCl (WM k0 kv ko ks km kt kp kb cZ cD cI (thr true true false) mv io sz mk se pv pd op mw) H := hP
            refine kb_eq (tgt := 159) hx hb dX1_move_154 (by decide) (fun h => absurd h (by decide)) (fun _ => ?_)
            refine lv_iconst (v := nI 0) hx hb dX1_move_157 (by decide) ?_
            refine W.widen (k := 0) (n := 0) (Nat.le_of_ble_eq_true rfl) (Nat.le_of_ble_eq_true rfl) ?_
            exact W.iret (v := nI 0) hx hb hr (fun t9 ht9 hW9 => ⟨⟨_, rfl, by rw [tMo_of (A := true) (B := true) (C := false) (c_1) (decide_eq_true c_54) (and_t c_60 (decide_eq_false (fun h => h c_62)))]; rfl, by rw [ht9, tMo_of (A := true) (B := true) (C := false) (c_1) (decide_eq_true c_54) (and_t c_60 (decide_eq_false (fun h => h c_62)))]; exact hP⟩, hS.F ht9⟩) hS.2.2 dX1_move_158
          · refine lv_iconst (v := nI 1) hx hb dX1_move_124 (by decide) ?_
            refine lv_goto (tgt := 143) hx hb dX1_move_125 (by decide) ?_
            refine lv_istore (lv' := [(8, .int (nI 1)), (7, .int (nI 1)), (6, .int (nI (wy true (lw mv sz 2) (mk 1)))), (5, .int (nI (wy (lo io sz 0 || !se 0) (lw mv sz 0) (mk 0)))), (4, .int (nI (wy (lo io sz 3 || !se 5) (lw mv sz 3) (mk 5)))), (3, .int (nI (wy (lo io sz 0 || lo io sz 2) (lw mv sz 0) (lw mv sz 2)))), (2, .int (nI 1)), (0, .ref k0), (1, .int (b2i true))]) hx hb dX1_move_143 hl (by decide) rfl (fun ls hl => ?_)
            refine lv_aload_n hx hb dX1_move_145 rfl (lv_at hl 7 rfl) ?_
            refine lv_iload_n hx hb dX1_move_146 rfl (lv_at hl 6 rfl) ?_
            refine lv_iload hx hb dX1_move_147 (lv_at hl 1 rfl) ?_
            refine lv_iload hx hb dX1_move_149 (lv_at hl 0 rfl) ?_
            have hFc := va_free (wc := WM k0 kv ko ks km kt kp kb cZ cD cI th mv io sz mk se pv pd op mw) hD hS hA [0, 1, 2, 3, 4, 5, 6, 7] rfl
            refine wr_calli (va_runV (As := [.int (b2i true), .int (b2i true), .int (b2i true)]) (rest := []) ⟨hx, hb, hml, hown, hts⟩ (c_X1_throwing l D k0 kv ko ks km kt kp kb cZ cD cI th mv io sz mk se pv pd op mw hsz s.heap.size true true true ) (cwV 3 hts gX1_move_X1_throwing rfl rfl rfl (by decide +kernel) ⟨Nat.le_of_ble_eq_true rfl, Nat.le_of_ble_eq_true rfl⟩) ⟨fun a U g mk q => ⟨q.1, q.2.1, q.2.2.1, va_K.moved (u := U) (U := U.calling g mk a) (Vm.Alike.refl U.vm) q.2.2.2.1, q.2.2.2.2⟩, va_recv hK hP (ci := 2) (q0 := 0) rfl rfl, fun U hU hW => ⟨rfl, by rw [hU], by rw [hU]; exact hP, va_K.moved hW.alike hK, hD.weaken (fun _ _ _ _ => trivial)⟩⟩ rfl rfl hl.1 rfl (lv_room (Nat.le_of_ble_eq_true rfl)) dX1_move_151 ⟨Nat.le_of_ble_eq_true rfl, Nat.le_of_ble_eq_true rfl⟩) hS hFc (fun r_64 H locs hr_64 hP _ _ hS => ?_)
            subst hr_64
            refine kt_i (y := b2i true) rfl ?_
            have hD : va_D A (WM k0 kv ko ks km kt kp kb cZ cD cI (thr true true true) mv io sz mk se pv pd op mw) := va_D_same (ws := WM k0 kv ko ks km kt kp kb cZ cD cI th mv io sz mk se pv pd op mw) rfl hD
            have hP : va_P D vwCl (WM k0 kv ko ks km kt kp kb cZ cD cI (thr true true true) mv io sz mk se pv pd op mw) H := hP
            refine kb_eq (tgt := 159) hx hb dX1_move_154 (by decide) (fun h => absurd h (by decide)) (fun _ => ?_)
            refine lv_iconst (v := nI 0) hx hb dX1_move_157 (by decide) ?_
            refine W.widen (k := 0) (n := 0) (Nat.le_of_ble_eq_true rfl) (Nat.le_of_ble_eq_true rfl) ?_
            exact W.iret (v := nI 0) hx hb hr (fun t9 ht9 hW9 => ⟨⟨_, rfl, by rw [tMo_of (A := true) (B := true) (C := true) (c_1) (decide_eq_true c_54) (and_t c_60 (decide_eq_true c_62))]; rfl, by rw [ht9, tMo_of (A := true) (B := true) (C := true) (c_1) (decide_eq_true c_54) (and_t c_60 (decide_eq_true c_62))]; exact hP⟩, hS.F ht9⟩) hS.2.2 dX1_move_158
    · refine lv_aload_n hx hb dX1_move_45 rfl (lv_at hl 4 rfl) ?_
      refine va_get (D := D) (ci := 2) (v := .ref kt) (C := RX1) (T := TX1) (N := 10) hx hb hts hinRX1 hown hK hP 0 rfl rfl 5 (by decide) hf_24 (fun _ h9 => h9) rfl dX1_move_46 ?_
      refine lv_iconst (v := nI 1) hx hb dX1_move_49 (by decide) ?_
      refine kn_zald hx hb hK hP 5 0 rfl rfl (by omega) (by decide) dX1_move_50 ?_
      refine kb_ne (tgt := 58) hx hb dX1_move_51 (by decide) (fun c_65 => ?_) (fun c_65 => ?_)
      · refine lv_iconst (v := nI 0) hx hb dX1_move_58 (by decide) ?_
        refine lv_aload_n hx hb dX1_move_59 rfl (lv_at hl 4 rfl) ?_
        refine lv_iconst (v := nI 2) hx hb dX1_move_60 (by decide) ?_
        refine rd_calld (va_runV (As := [.int (nI 2)]) (rest := [.int (nI 0)]) ⟨hx, hb, hml, hown, hts⟩ (c_X1_latestValue l D k0 kv ko ks km kt kp kb cZ cD cI th mv io sz mk se pv pd op mw hsz 2 (by omega)) (cwV 1 hts gX1_move_X1_latestValue rfl rfl rfl (by decide +kernel) ⟨Nat.le_of_ble_eq_true rfl, Nat.le_of_ble_eq_true rfl⟩) ⟨fun a U g mk q => ⟨q.1, q.2.1, va_K.moved (u := U) (U := U.calling g mk a) (Vm.Alike.refl U.vm) q.2.2⟩, va_recv hK hP (ci := 2) (q0 := 0) rfl rfl, fun U hU hW => ⟨rfl, by rw [hU]; exact hP, va_K.moved hW.alike hK⟩⟩ rfl rfl hl.1 rfl (lv_room (Nat.le_of_ble_eq_true rfl)) dX1_move_61 ⟨Nat.le_of_ble_eq_true rfl, Nat.le_of_ble_eq_true rfl⟩) (fun r_66 hr_66 => ?_)
        subst hr_66
        refine lv_aload_n hx hb dX1_move_64 rfl (lv_at hl 4 rfl) ?_
        refine va_get (D := D) (ci := 2) (v := .ref km) (C := RX1) (T := TX1) (N := 10) hx hb hts hinRX1 hown hK hP 0 rfl rfl 4 (by decide) hf_21 (fun _ h9 => h9) rfl dX1_move_65 ?_
        refine lv_iconst (v := nI 1) hx hb dX1_move_68 (by decide) ?_
        refine kn_dald hx hb hK hP 4 1 rfl rfl (by omega) (by decide) dX1_move_69 ?_
        refine rd_calli (va_runS (As := [.int (b2i false), .double (lw mv sz 2), .double (mk 1)]) (rest := []) ⟨hx, hb, hml, hown, hts⟩ (c_X1_way l false (lw mv sz 2) (mk 1) ) (va_cwS 3 hts gX1_move_X1_way rfl rfl rfl (by decide +kernel) ⟨Nat.le_of_ble_eq_true rfl, Nat.le_of_ble_eq_true rfl⟩) ⟨fun a U g mk q => q, fun U hU hW => ⟨rfl, trivial⟩⟩ rfl rfl hl.1 rfl (lv_room (Nat.le_of_ble_eq_true rfl)) dX1_move_70 ⟨Nat.le_of_ble_eq_true rfl, Nat.le_of_ble_eq_true rfl⟩) (fun r_67 hr_67 => ?_)
        subst hr_67
        refine lv_istore (lv' := [(6, .int (nI (wy false (lw mv sz 2) (mk 1)))), (5, .int (nI (wy (lo io sz 0 || !se 0) (lw mv sz 0) (mk 0)))), (4, .int (nI (wy (lo io sz 3 || !se 5) (lw mv sz 3) (mk 5)))), (3, .int (nI (wy (lo io sz 0 || lo io sz 2) (lw mv sz 0) (lw mv sz 2)))), (2, .int (nI 1)), (0, .ref k0), (1, .int (b2i true))]) hx hb dX1_move_73 hl (by decide) rfl (fun ls hl => ?_)
        refine lv_iload_n hx hb dX1_move_75 rfl (lv_at hl 6 rfl) ?_
        refine kb_eq (tgt := 92) hx hb dX1_move_76 (by decide) (fun h => absurd h (by decide)) (fun _ => ?_)
        refine lv_iload_n hx hb dX1_move_79 rfl (lv_at hl 3 rfl) ?_
        refine lv_iconst (v := nI 4) hx hb dX1_move_80 (by decide) ?_
        refine kn_icmp_eq (tgt := 88) hx hb (Nat.lt_trans (wy_lt _ _ _) (by decide)) (by decide) dX1_move_81 (by decide) (fun c_68 => ?_) (fun c_68 => ?_)
        · refine lv_iconst (v := nI 0) hx hb dX1_move_88 (by decide) ?_
          refine lv_goto (tgt := 103) hx hb dX1_move_89 (by decide) ?_
          refine lv_istore (lv' := [(7, .int (nI 0)), (6, .int (nI (wy false (lw mv sz 2) (mk 1)))), (5, .int (nI (wy (lo io sz 0 || !se 0) (lw mv sz 0) (mk 0)))), (4, .int (nI (wy (lo io sz 3 || !se 5) (lw mv sz 3) (mk 5)))), (3, .int (nI (wy (lo io sz 0 || lo io sz 2) (lw mv sz 0) (lw mv sz 2)))), (2, .int (nI 1)), (0, .ref k0), (1, .int (b2i true))]) hx hb dX1_move_103 hl (by decide) rfl (fun ls hl => ?_)
          refine lv_iload_n hx hb dX1_move_105 rfl (lv_at hl 7 rfl) ?_
          refine kb_eq (tgt := 132) hx hb dX1_move_106 (by decide) (fun h => absurd h (by decide)) (fun _ => ?_)
          refine lv_aload_n hx hb dX1_move_109 rfl (lv_at hl 6 rfl) ?_
          refine va_get (D := D) (ci := 2) (v := .ref kt) (C := RX1) (T := TX1) (N := 10) hx hb hts hinRX1 hown hK hP 0 rfl rfl 5 (by decide) hf_24 (fun _ h9 => h9) rfl dX1_move_110 ?_
          refine lv_iconst (v := nI 5) hx hb dX1_move_113 (by decide) ?_
          refine kn_zald hx hb hK hP 5 0 rfl rfl (by omega) (by decide) dX1_move_114 ?_
          refine kb_eq (tgt := 128) hx hb dX1_move_115 (by decide) (fun c_69 => ?_) (fun c_69 => ?_)
          · refine lv_iconst (v := nI 0) hx hb dX1_move_128 (by decide) ?_
            refine lv_goto (tgt := 143) hx hb dX1_move_129 (by decide) ?_
            refine lv_istore (lv' := [(8, .int (nI 0)), (7, .int (nI 0)), (6, .int (nI (wy false (lw mv sz 2) (mk 1)))), (5, .int (nI (wy (lo io sz 0 || !se 0) (lw mv sz 0) (mk 0)))), (4, .int (nI (wy (lo io sz 3 || !se 5) (lw mv sz 3) (mk 5)))), (3, .int (nI (wy (lo io sz 0 || lo io sz 2) (lw mv sz 0) (lw mv sz 2)))), (2, .int (nI 1)), (0, .ref k0), (1, .int (b2i true))]) hx hb dX1_move_143 hl (by decide) rfl (fun ls hl => ?_)
            refine lv_aload_n hx hb dX1_move_145 rfl (lv_at hl 7 rfl) ?_
            refine lv_iload_n hx hb dX1_move_146 rfl (lv_at hl 6 rfl) ?_
            refine lv_iload hx hb dX1_move_147 (lv_at hl 1 rfl) ?_
            refine lv_iload hx hb dX1_move_149 (lv_at hl 0 rfl) ?_
            have hFc := va_free (wc := WM k0 kv ko ks km kt kp kb cZ cD cI th mv io sz mk se pv pd op mw) hD hS hA [0, 1, 2, 3, 4, 5, 6, 7] rfl
            refine wr_calli (va_runV (As := [.int (b2i true), .int (b2i false), .int (b2i false)]) (rest := []) ⟨hx, hb, hml, hown, hts⟩ (c_X1_throwing l D k0 kv ko ks km kt kp kb cZ cD cI th mv io sz mk se pv pd op mw hsz s.heap.size true false false ) (cwV 3 hts gX1_move_X1_throwing rfl rfl rfl (by decide +kernel) ⟨Nat.le_of_ble_eq_true rfl, Nat.le_of_ble_eq_true rfl⟩) ⟨fun a U g mk q => ⟨q.1, q.2.1, q.2.2.1, va_K.moved (u := U) (U := U.calling g mk a) (Vm.Alike.refl U.vm) q.2.2.2.1, q.2.2.2.2⟩, va_recv hK hP (ci := 2) (q0 := 0) rfl rfl, fun U hU hW => ⟨rfl, by rw [hU], by rw [hU]; exact hP, va_K.moved hW.alike hK, hD.weaken (fun _ _ _ _ => trivial)⟩⟩ rfl rfl hl.1 rfl (lv_room (Nat.le_of_ble_eq_true rfl)) dX1_move_151 ⟨Nat.le_of_ble_eq_true rfl, Nat.le_of_ble_eq_true rfl⟩) hS hFc (fun r_70 H locs hr_70 hP _ _ hS => ?_)
            subst hr_70
            refine kt_i (y := b2i true) rfl ?_
            have hD : va_D A (WM k0 kv ko ks km kt kp kb cZ cD cI (thr true false false) mv io sz mk se pv pd op mw) := va_D_same (ws := WM k0 kv ko ks km kt kp kb cZ cD cI th mv io sz mk se pv pd op mw) rfl hD
            have hP : va_P D vwCl (WM k0 kv ko ks km kt kp kb cZ cD cI (thr true false false) mv io sz mk se pv pd op mw) H := hP
            refine kb_eq (tgt := 159) hx hb dX1_move_154 (by decide) (fun h => absurd h (by decide)) (fun _ => ?_)
            refine lv_iconst (v := nI 0) hx hb dX1_move_157 (by decide) ?_
            refine W.widen (k := 0) (n := 0) (Nat.le_of_ble_eq_true rfl) (Nat.le_of_ble_eq_true rfl) ?_
            exact W.iret (v := nI 0) hx hb hr (fun t9 ht9 hW9 => ⟨⟨_, rfl, by rw [tMo_of (A := true) (B := false) (C := false) (c_1) (decide_eq_false (fun h => h c_68)) (and_f c_69)]; rfl, by rw [ht9, tMo_of (A := true) (B := false) (C := false) (c_1) (decide_eq_false (fun h => h c_68)) (and_f c_69)]; exact hP⟩, hS.F ht9⟩) hS.2.2 dX1_move_158
          · refine lv_iload hx hb dX1_move_118 (lv_at hl 3 rfl) ?_
            refine lv_iconst (v := nI 1) hx hb dX1_move_120 (by decide) ?_
            refine kn_icmp_eq (tgt := 128) hx hb (Nat.lt_trans (wy_lt _ _ _) (by decide)) (by decide) dX1_move_121 (by decide) (fun c_71 => ?_) (fun c_71 => ?_)
            · refine lv_iconst (v := nI 0) hx hb dX1_move_128 (by decide) ?_
              refine lv_goto (tgt := 143) hx hb dX1_move_129 (by decide) ?_
              refine lv_istore (lv' := [(8, .int (nI 0)), (7, .int (nI 0)), (6, .int (nI (wy false (lw mv sz 2) (mk 1)))), (5, .int (nI (wy (lo io sz 0 || !se 0) (lw mv sz 0) (mk 0)))), (4, .int (nI (wy (lo io sz 3 || !se 5) (lw mv sz 3) (mk 5)))), (3, .int (nI (wy (lo io sz 0 || lo io sz 2) (lw mv sz 0) (lw mv sz 2)))), (2, .int (nI 1)), (0, .ref k0), (1, .int (b2i true))]) hx hb dX1_move_143 hl (by decide) rfl (fun ls hl => ?_)
              refine lv_aload_n hx hb dX1_move_145 rfl (lv_at hl 7 rfl) ?_
              refine lv_iload_n hx hb dX1_move_146 rfl (lv_at hl 6 rfl) ?_
              refine lv_iload hx hb dX1_move_147 (lv_at hl 1 rfl) ?_
              refine lv_iload hx hb dX1_move_149 (lv_at hl 0 rfl) ?_
              have hFc := va_free (wc := WM k0 kv ko ks km kt kp kb cZ cD cI th mv io sz mk se pv pd op mw) hD hS hA [0, 1, 2, 3, 4, 5, 6, 7] rfl
              refine wr_calli (va_runV (As := [.int (b2i true), .int (b2i false), .int (b2i false)]) (rest := []) ⟨hx, hb, hml, hown, hts⟩ (c_X1_throwing l D k0 kv ko ks km kt kp kb cZ cD cI th mv io sz mk se pv pd op mw hsz s.heap.size true false false ) (cwV 3 hts gX1_move_X1_throwing rfl rfl rfl (by decide +kernel) ⟨Nat.le_of_ble_eq_true rfl, Nat.le_of_ble_eq_true rfl⟩) ⟨fun a U g mk q => ⟨q.1, q.2.1, q.2.2.1, va_K.moved (u := U) (U := U.calling g mk a) (Vm.Alike.refl U.vm) q.2.2.2.1, q.2.2.2.2⟩, va_recv hK hP (ci := 2) (q0 := 0) rfl rfl, fun U hU hW => ⟨rfl, by rw [hU], by rw [hU]; exact hP, va_K.moved hW.alike hK, hD.weaken (fun _ _ _ _ => trivial)⟩⟩ rfl rfl hl.1 rfl (lv_room (Nat.le_of_ble_eq_true rfl)) dX1_move_151 ⟨Nat.le_of_ble_eq_true rfl, Nat.le_of_ble_eq_true rfl⟩) hS hFc (fun r_72 H locs hr_72 hP _ _ hS => ?_)
              subst hr_72
              refine kt_i (y := b2i true) rfl ?_
              have hD : va_D A (WM k0 kv ko ks km kt kp kb cZ cD cI (thr true false false) mv io sz mk se pv pd op mw) := va_D_same (ws := WM k0 kv ko ks km kt kp kb cZ cD cI th mv io sz mk se pv pd op mw) rfl hD
              have hP : va_P D vwCl (WM k0 kv ko ks km kt kp kb cZ cD cI (thr true false false) mv io sz mk se pv pd op mw) H := hP
              refine kb_eq (tgt := 159) hx hb dX1_move_154 (by decide) (fun h => absurd h (by decide)) (fun _ => ?_)
              refine lv_iconst (v := nI 0) hx hb dX1_move_157 (by decide) ?_
              refine W.widen (k := 0) (n := 0) (Nat.le_of_ble_eq_true rfl) (Nat.le_of_ble_eq_true rfl) ?_
              exact W.iret (v := nI 0) hx hb hr (fun t9 ht9 hW9 => ⟨⟨_, rfl, by rw [tMo_of (A := true) (B := false) (C := false) (c_1) (decide_eq_false (fun h => h c_68)) (and_t c_69 (decide_eq_false (fun h => h c_71)))]; rfl, by rw [ht9, tMo_of (A := true) (B := false) (C := false) (c_1) (decide_eq_false (fun h => h c_68)) (and_t c_69 (decide_eq_false (fun h => h c_71)))]; exact hP⟩, hS.F ht9⟩) hS.2.2 dX1_move_158
            · refine lv_iconst (v := nI 1) hx hb dX1_move_124 (by decide) ?_
              refine lv_goto (tgt := 143) hx hb dX1_move_125 (by decide) ?_
              refine lv_istore (lv' := [(8, .int (nI 1)), (7, .int (nI 0)), (6, .int (nI (wy false (lw mv sz 2) (mk 1)))), (5, .int (nI (wy (lo io sz 0 || !se 0) (lw mv sz 0) (mk 0)))), (4, .int (nI (wy (lo io sz 3 || !se 5) (lw mv sz 3) (mk 5)))), (3, .int (nI (wy (lo io sz 0 || lo io sz 2) (lw mv sz 0) (lw mv sz 2)))), (2, .int (nI 1)), (0, .ref k0), (1, .int (b2i true))]) hx hb dX1_move_143 hl (by decide) rfl (fun ls hl => ?_)
              refine lv_aload_n hx hb dX1_move_145 rfl (lv_at hl 7 rfl) ?_
              refine lv_iload_n hx hb dX1_move_146 rfl (lv_at hl 6 rfl) ?_
              refine lv_iload hx hb dX1_move_147 (lv_at hl 1 rfl) ?_
              refine lv_iload hx hb dX1_move_149 (lv_at hl 0 rfl) ?_
              have hFc := va_free (wc := WM k0 kv ko ks km kt kp kb cZ cD cI th mv io sz mk se pv pd op mw) hD hS hA [0, 1, 2, 3, 4, 5, 6, 7] rfl
              refine wr_calli (va_runV (As := [.int (b2i true), .int (b2i false), .int (b2i true)]) (rest := []) ⟨hx, hb, hml, hown, hts⟩ (c_X1_throwing l D k0 kv ko ks km kt kp kb cZ cD cI th mv io sz mk se pv pd op mw hsz s.heap.size true false true ) (cwV 3 hts gX1_move_X1_throwing rfl rfl rfl (by decide +kernel) ⟨Nat.le_of_ble_eq_true rfl, Nat.le_of_ble_eq_true rfl⟩) ⟨fun a U g mk q => ⟨q.1, q.2.1, q.2.2.1, va_K.moved (u := U) (U := U.calling g mk a) (Vm.Alike.refl U.vm) q.2.2.2.1, q.2.2.2.2⟩, va_recv hK hP (ci := 2) (q0 := 0) rfl rfl, fun U hU hW => ⟨rfl, by rw [hU], by rw [hU]; exact hP, va_K.moved hW.alike hK, hD.weaken (fun _ _ _ _ => trivial)⟩⟩ rfl rfl hl.1 rfl (lv_room (Nat.le_of_ble_eq_true rfl)) dX1_move_151 ⟨Nat.le_of_ble_eq_true rfl, Nat.le_of_ble_eq_true rfl⟩) hS hFc (fun r_73 H locs hr_73 hP _ _ hS => ?_)
              subst hr_73
              refine kt_i (y := b2i true) rfl ?_
              have hD : va_D A (WM k0 kv ko ks km kt kp kb cZ cD cI (thr true false true) mv io sz mk se pv pd op mw) := va_D_same (ws := WM k0 kv ko ks km kt kp kb cZ cD cI th mv io sz mk se pv pd op mw) rfl hD
              have hP : va_P D vwCl (WM k0 kv ko ks km kt kp kb cZ cD cI (thr true false true) mv io sz mk se pv pd op mw) H := hP
              refine kb_eq (tgt := 159) hx hb dX1_move_154 (by decide) (fun h => absurd h (by decide)) (fun _ => ?_)
              refine lv_iconst (v := nI 0) hx hb dX1_move_157 (by decide) ?_
              refine W.widen (k := 0) (n := 0) (Nat.le_of_ble_eq_true rfl) (Nat.le_of_ble_eq_true rfl) ?_
              exact W.iret (v := nI 0) hx hb hr (fun t9 ht9 hW9 => ⟨⟨_, rfl, by rw [tMo_of (A := true) (B := false) (C := true) (c_1) (decide_eq_false (fun h => h c_68)) (and_t c_69 (decide_eq_true c_71))]; rfl, by rw [ht9, tMo_of (A := true) (B := false) (C := true) (c_1) (decide_eq_false (fun h => h c_68)) (and_t c_69 (decide_eq_true c_71))]; exact hP⟩, hS.F ht9⟩) hS.2.2 dX1_move_158
        · refine lv_iconst (v := nI 1) hx hb dX1_move_84 (by decide) ?_
          refine lv_goto (tgt := 103) hx hb dX1_move_85 (by decide) ?_
          refine lv_istore (lv' := [(7, .int (nI 1)), (6, .int (nI (wy false (lw mv sz 2) (mk 1)))), (5, .int (nI (wy (lo io sz 0 || !se 0) (lw mv sz 0) (mk 0)))), (4, .int (nI (wy (lo io sz 3 || !se 5) (lw mv sz 3) (mk 5)))), (3, .int (nI (wy (lo io sz 0 || lo io sz 2) (lw mv sz 0) (lw mv sz 2)))), (2, .int (nI 1)), (0, .ref k0), (1, .int (b2i true))]) hx hb dX1_move_103 hl (by decide) rfl (fun ls hl => ?_)
          refine lv_iload_n hx hb dX1_move_105 rfl (lv_at hl 7 rfl) ?_
          refine kb_eq (tgt := 132) hx hb dX1_move_106 (by decide) (fun h => absurd h (by decide)) (fun _ => ?_)
          refine lv_aload_n hx hb dX1_move_109 rfl (lv_at hl 6 rfl) ?_
          refine va_get (D := D) (ci := 2) (v := .ref kt) (C := RX1) (T := TX1) (N := 10) hx hb hts hinRX1 hown hK hP 0 rfl rfl 5 (by decide) hf_24 (fun _ h9 => h9) rfl dX1_move_110 ?_
          refine lv_iconst (v := nI 5) hx hb dX1_move_113 (by decide) ?_
          refine kn_zald hx hb hK hP 5 0 rfl rfl (by omega) (by decide) dX1_move_114 ?_
          refine kb_eq (tgt := 128) hx hb dX1_move_115 (by decide) (fun c_74 => ?_) (fun c_74 => ?_)
          · refine lv_iconst (v := nI 0) hx hb dX1_move_128 (by decide) ?_
            refine lv_goto (tgt := 143) hx hb dX1_move_129 (by decide) ?_
            refine lv_istore (lv' := [(8, .int (nI 0)), (7, .int (nI 1)), (6, .int (nI (wy false (lw mv sz 2) (mk 1)))), (5, .int (nI (wy (lo io sz 0 || !se 0) (lw mv sz 0) (mk 0)))), (4, .int (nI (wy (lo io sz 3 || !se 5) (lw mv sz 3) (mk 5)))), (3, .int (nI (wy (lo io sz 0 || lo io sz 2) (lw mv sz 0) (lw mv sz 2)))), (2, .int (nI 1)), (0, .ref k0), (1, .int (b2i true))]) hx hb dX1_move_143 hl (by decide) rfl (fun ls hl => ?_)
            refine lv_aload_n hx hb dX1_move_145 rfl (lv_at hl 7 rfl) ?_
            refine lv_iload_n hx hb dX1_move_146 rfl (lv_at hl 6 rfl) ?_
            refine lv_iload hx hb dX1_move_147 (lv_at hl 1 rfl) ?_
            refine lv_iload hx hb dX1_move_149 (lv_at hl 0 rfl) ?_
            have hFc := va_free (wc := WM k0 kv ko ks km kt kp kb cZ cD cI th mv io sz mk se pv pd op mw) hD hS hA [0, 1, 2, 3, 4, 5, 6, 7] rfl
            refine wr_calli (va_runV (As := [.int (b2i true), .int (b2i true), .int (b2i false)]) (rest := []) ⟨hx, hb, hml, hown, hts⟩ (c_X1_throwing l D k0 kv ko ks km kt kp kb cZ cD cI th mv io sz mk se pv pd op mw hsz s.heap.size true true false ) (cwV 3 hts gX1_move_X1_throwing rfl rfl rfl (by decide +kernel) ⟨Nat.le_of_ble_eq_true rfl, Nat.le_of_ble_eq_true rfl⟩) ⟨fun a U g mk q => ⟨q.1, q.2.1, q.2.2.1, va_K.moved (u := U) (U := U.calling g mk a) (Vm.Alike.refl U.vm) q.2.2.2.1, q.2.2.2.2⟩, va_recv hK hP (ci := 2) (q0 := 0) rfl rfl, fun U hU hW => ⟨rfl, by rw [hU], by rw [hU]; exact hP, va_K.moved hW.alike hK, hD.weaken (fun _ _ _ _ => trivial)⟩⟩ rfl rfl hl.1 rfl (lv_room (Nat.le_of_ble_eq_true rfl)) dX1_move_151 ⟨Nat.le_of_ble_eq_true rfl, Nat.le_of_ble_eq_true rfl⟩) hS hFc (fun r_75 H locs hr_75 hP _ _ hS => ?_)
            subst hr_75
            refine kt_i (y := b2i true) rfl ?_
            have hD : va_D A (WM k0 kv ko ks km kt kp kb cZ cD cI (thr true true false) mv io sz mk se pv pd op mw) := va_D_same (ws := WM k0 kv ko ks km kt kp kb cZ cD cI th mv io sz mk se pv pd op mw) rfl hD
            have hP : va_P D vwCl (WM k0 kv ko ks km kt kp kb cZ cD cI (thr true true false) mv io sz mk se pv pd op mw) H := hP
            refine kb_eq (tgt := 159) hx hb dX1_move_154 (by decide) (fun h => absurd h (by decide)) (fun _ => ?_)
            refine lv_iconst (v := nI 0) hx hb dX1_move_157 (by decide) ?_
            refine W.widen (k := 0) (n := 0) (Nat.le_of_ble_eq_true rfl) (Nat.le_of_ble_eq_true rfl) ?_
            exact W.iret (v := nI 0) hx hb hr (fun t9 ht9 hW9 => ⟨⟨_, rfl, by rw [tMo_of (A := true) (B := true) (C := false) (c_1) (decide_eq_true c_68) (and_f c_74)]; rfl, by rw [ht9, tMo_of (A := true) (B := true) (C := false) (c_1) (decide_eq_true c_68) (and_f c_74)]; exact hP⟩, hS.F ht9⟩) hS.2.2 dX1_move_158
          · refine lv_iload hx hb dX1_move_118 (lv_at hl 3 rfl) ?_
            refine lv_iconst (v := nI 1) hx hb dX1_move_120 (by decide) ?_
            refine kn_icmp_eq (tgt := 128) hx hb (Nat.lt_trans (wy_lt _ _ _) (by decide)) (by decide) dX1_move_121 (by decide) (fun c_76 => ?_) (fun c_76 => ?_)
            · refine lv_iconst (v := nI 0) hx hb dX1_move_128 (by decide) ?_
              refine lv_goto (tgt := 143) hx hb dX1_move_129 (by decide) ?_
              refine lv_istore (lv' := [(8, .int (nI 0)), (7, .int (nI 1)), (6, .int (nI (wy false (lw mv sz 2) (mk 1)))), (5, .int (nI (wy (lo io sz 0 || !se 0) (lw mv sz 0) (mk 0)))), (4, .int (nI (wy (lo io sz 3 || !se 5) (lw mv sz 3) (mk 5)))), (3, .int (nI (wy (lo io sz 0 || lo io sz 2) (lw mv sz 0) (lw mv sz 2)))), (2, .int (nI 1)), (0, .ref k0), (1, .int (b2i true))]) hx hb dX1_move_143 hl (by decide) rfl (fun ls hl => ?_)
              refine lv_aload_n hx hb dX1_move_145 rfl (lv_at hl 7 rfl) ?_
              refine lv_iload_n hx hb dX1_move_146 rfl (lv_at hl 6 rfl) ?_
              refine lv_iload hx hb dX1_move_147 (lv_at hl 1 rfl) ?_
              refine lv_iload hx hb dX1_move_149 (lv_at hl 0 rfl) ?_
              have hFc := va_free (wc := WM k0 kv ko ks km kt kp kb cZ cD cI th mv io sz mk se pv pd op mw) hD hS hA [0, 1, 2, 3, 4, 5, 6, 7] rfl
              refine wr_calli (va_runV (As := [.int (b2i true), .int (b2i true), .int (b2i false)]) (rest := []) ⟨hx, hb, hml, hown, hts⟩ (c_X1_throwing l D k0 kv ko ks km kt kp kb cZ cD cI th mv io sz mk se pv pd op mw hsz s.heap.size true true false ) (cwV 3 hts gX1_move_X1_throwing rfl rfl rfl (by decide +kernel) ⟨Nat.le_of_ble_eq_true rfl, Nat.le_of_ble_eq_true rfl⟩) ⟨fun a U g mk q => ⟨q.1, q.2.1, q.2.2.1, va_K.moved (u := U) (U := U.calling g mk a) (Vm.Alike.refl U.vm) q.2.2.2.1, q.2.2.2.2⟩, va_recv hK hP (ci := 2) (q0 := 0) rfl rfl, fun U hU hW => ⟨rfl, by rw [hU], by rw [hU]; exact hP, va_K.moved hW.alike hK, hD.weaken (fun _ _ _ _ => trivial)⟩⟩ rfl rfl hl.1 rfl (lv_room (Nat.le_of_ble_eq_true rfl)) dX1_move_151 ⟨Nat.le_of_ble_eq_true rfl, Nat.le_of_ble_eq_true rfl⟩) hS hFc (fun r_77 H locs hr_77 hP _ _ hS => ?_)
              subst hr_77
              refine kt_i (y := b2i true) rfl ?_
              have hD : va_D A (WM k0 kv ko ks km kt kp kb cZ cD cI (thr true true false) mv io sz mk se pv pd op mw) := va_D_same (ws := WM k0 kv ko ks km kt kp kb cZ cD cI th mv io sz mk se pv pd op mw) rfl hD
              have hP : va_P D vwCl (WM k0 kv ko ks km kt kp kb cZ cD cI (thr true true false) mv io sz mk se pv pd op mw) H := hP
              refine kb_eq (tgt := 159) hx hb dX1_move_154 (by decide) (fun h => absurd h (by decide)) (fun _ => ?_)
              refine lv_iconst (v := nI 0) hx hb dX1_move_157 (by decide) ?_
              refine W.widen (k := 0) (n := 0) (Nat.le_of_ble_eq_true rfl) (Nat.le_of_ble_eq_true rfl) ?_
              exact W.iret (v := nI 0) hx hb hr (fun t9 ht9 hW9 => ⟨⟨_, rfl, by rw [tMo_of (A := true) (B := true) (C := false) (c_1) (decide_eq_true c_68) (and_t c_74 (decide_eq_false (fun h => h c_76)))]; rfl, by rw [ht9, tMo_of (A := true) (B := true) (C := false) (c_1) (decide_eq_true c_68) (and_t c_74 (decide_eq_false (fun h => h c_76)))]; exact hP⟩, hS.F ht9⟩) hS.2.2 dX1_move_158
            · refine lv_iconst (v := nI 1) hx hb dX1_move_124 (by decide) ?_
              refine lv_goto (tgt := 143) hx hb dX1_move_125 (by decide) ?_
              refine lv_istore (lv' := [(8, .int (nI 1)), (7, .int (nI 1)), (6, .int (nI (wy false (lw mv sz 2) (mk 1)))), (5, .int (nI (wy (lo io sz 0 || !se 0) (lw mv sz 0) (mk 0)))), (4, .int (nI (wy (lo io sz 3 || !se 5) (lw mv sz 3) (mk 5)))), (3, .int (nI (wy (lo io sz 0 || lo io sz 2) (lw mv sz 0) (lw mv sz 2)))), (2, .int (nI 1)), (0, .ref k0), (1, .int (b2i true))]) hx hb dX1_move_143 hl (by decide) rfl (fun ls hl => ?_)
              refine lv_aload_n hx hb dX1_move_145 rfl (lv_at hl 7 rfl) ?_
              refine lv_iload_n hx hb dX1_move_146 rfl (lv_at hl 6 rfl) ?_
              refine lv_iload hx hb dX1_move_147 (lv_at hl 1 rfl) ?_
              refine lv_iload hx hb dX1_move_149 (lv_at hl 0 rfl) ?_
              have hFc := va_free (wc := WM k0 kv ko ks km kt kp kb cZ cD cI th mv io sz mk se pv pd op mw) hD hS hA [0, 1, 2, 3, 4, 5, 6, 7] rfl
              refine wr_calli (va_runV (As := [.int (b2i true), .int (b2i true), .int (b2i true)]) (rest := []) ⟨hx, hb, hml, hown, hts⟩ (c_X1_throwing l D k0 kv ko ks km kt kp kb cZ cD cI th mv io sz mk se pv pd op mw hsz s.heap.size true true true ) (cwV 3 hts gX1_move_X1_throwing rfl rfl rfl (by decide +kernel) ⟨Nat.le_of_ble_eq_true rfl, Nat.le_of_ble_eq_true rfl⟩) ⟨fun a U g mk q => ⟨q.1, q.2.1, q.2.2.1, va_K.moved (u := U) (U := U.calling g mk a) (Vm.Alike.refl U.vm) q.2.2.2.1, q.2.2.2.2⟩, va_recv hK hP (ci := 2) (q0 := 0) rfl rfl, fun U hU hW => ⟨rfl, by rw [hU], by rw [hU]; exact hP, va_K.moved hW.alike hK, hD.weaken (fun _ _ _ _ => trivial)⟩⟩ rfl rfl hl.1 rfl (lv_room (Nat.le_of_ble_eq_true rfl)) dX1_move_151 ⟨Nat.le_of_ble_eq_true rfl, Nat.le_of_ble_eq_true rfl⟩) hS hFc (fun r_78 H locs hr_78 hP _ _ hS => ?_)
              subst hr_78
              refine kt_i (y := b2i true) rfl ?_
              have hD : va_D A (WM k0 kv ko ks km kt kp kb cZ cD cI (thr true true true) mv io sz mk se pv pd op mw) := va_D_same (ws := WM k0 kv ko ks km kt kp kb cZ cD cI th mv io sz mk se pv pd op mw) rfl hD
              have hP : va_P D vwCl (WM k0 kv ko ks km kt kp kb cZ cD cI (thr true true true) mv io sz mk se pv pd op mw) H := hP
              refine kb_eq (tgt := 159) hx hb dX1_move_154 (by decide) (fun h => absurd h (by decide)) (fun _ => ?_)
              refine lv_iconst (v := nI 0) hx hb dX1_move_157 (by decide) ?_
              refine W.widen (k := 0) (n := 0) (Nat.le_of_ble_eq_true rfl) (Nat.le_of_ble_eq_true rfl) ?_
              exact W.iret (v := nI 0) hx hb hr (fun t9 ht9 hW9 => ⟨⟨_, rfl, by rw [tMo_of (A := true) (B := true) (C := true) (c_1) (decide_eq_true c_68) (and_t c_74 (decide_eq_true c_76))]; rfl, by rw [ht9, tMo_of (A := true) (B := true) (C := true) (c_1) (decide_eq_true c_68) (and_t c_74 (decide_eq_true c_76))]; exact hP⟩, hS.F ht9⟩) hS.2.2 dX1_move_158
      · refine lv_iconst (v := nI 1) hx hb dX1_move_54 (by decide) ?_
        refine lv_goto (tgt := 59) hx hb dX1_move_55 (by decide) ?_
        refine lv_aload_n hx hb dX1_move_59 rfl (lv_at hl 4 rfl) ?_
        refine lv_iconst (v := nI 2) hx hb dX1_move_60 (by decide) ?_
        refine rd_calld (va_runV (As := [.int (nI 2)]) (rest := [.int (nI 1)]) ⟨hx, hb, hml, hown, hts⟩ (c_X1_latestValue l D k0 kv ko ks km kt kp kb cZ cD cI th mv io sz mk se pv pd op mw hsz 2 (by omega)) (cwV 1 hts gX1_move_X1_latestValue rfl rfl rfl (by decide +kernel) ⟨Nat.le_of_ble_eq_true rfl, Nat.le_of_ble_eq_true rfl⟩) ⟨fun a U g mk q => ⟨q.1, q.2.1, va_K.moved (u := U) (U := U.calling g mk a) (Vm.Alike.refl U.vm) q.2.2⟩, va_recv hK hP (ci := 2) (q0 := 0) rfl rfl, fun U hU hW => ⟨rfl, by rw [hU]; exact hP, va_K.moved hW.alike hK⟩⟩ rfl rfl hl.1 rfl (lv_room (Nat.le_of_ble_eq_true rfl)) dX1_move_61 ⟨Nat.le_of_ble_eq_true rfl, Nat.le_of_ble_eq_true rfl⟩) (fun r_79 hr_79 => ?_)
        subst hr_79
        refine lv_aload_n hx hb dX1_move_64 rfl (lv_at hl 4 rfl) ?_
        refine va_get (D := D) (ci := 2) (v := .ref km) (C := RX1) (T := TX1) (N := 10) hx hb hts hinRX1 hown hK hP 0 rfl rfl 4 (by decide) hf_21 (fun _ h9 => h9) rfl dX1_move_65 ?_
        refine lv_iconst (v := nI 1) hx hb dX1_move_68 (by decide) ?_
        refine kn_dald hx hb hK hP 4 1 rfl rfl (by omega) (by decide) dX1_move_69 ?_
        refine rd_calli (va_runS (As := [.int (b2i true), .double (lw mv sz 2), .double (mk 1)]) (rest := []) ⟨hx, hb, hml, hown, hts⟩ (c_X1_way l true (lw mv sz 2) (mk 1) ) (va_cwS 3 hts gX1_move_X1_way rfl rfl rfl (by decide +kernel) ⟨Nat.le_of_ble_eq_true rfl, Nat.le_of_ble_eq_true rfl⟩) ⟨fun a U g mk q => q, fun U hU hW => ⟨rfl, trivial⟩⟩ rfl rfl hl.1 rfl (lv_room (Nat.le_of_ble_eq_true rfl)) dX1_move_70 ⟨Nat.le_of_ble_eq_true rfl, Nat.le_of_ble_eq_true rfl⟩) (fun r_80 hr_80 => ?_)
        subst hr_80
        refine lv_istore (lv' := [(6, .int (nI (wy true (lw mv sz 2) (mk 1)))), (5, .int (nI (wy (lo io sz 0 || !se 0) (lw mv sz 0) (mk 0)))), (4, .int (nI (wy (lo io sz 3 || !se 5) (lw mv sz 3) (mk 5)))), (3, .int (nI (wy (lo io sz 0 || lo io sz 2) (lw mv sz 0) (lw mv sz 2)))), (2, .int (nI 1)), (0, .ref k0), (1, .int (b2i true))]) hx hb dX1_move_73 hl (by decide) rfl (fun ls hl => ?_)
        refine lv_iload_n hx hb dX1_move_75 rfl (lv_at hl 6 rfl) ?_
        refine kb_eq (tgt := 92) hx hb dX1_move_76 (by decide) (fun h => absurd h (by decide)) (fun _ => ?_)
        refine lv_iload_n hx hb dX1_move_79 rfl (lv_at hl 3 rfl) ?_
        refine lv_iconst (v := nI 4) hx hb dX1_move_80 (by decide) ?_
        refine kn_icmp_eq (tgt := 88) hx hb (Nat.lt_trans (wy_lt _ _ _) (by decide)) (by decide) dX1_move_81 (by decide) (fun c_81 => ?_) (fun c_81 => ?_)
        · refine lv_iconst (v := nI 0) hx hb dX1_move_88 (by decide) ?_
          refine lv_goto (tgt := 103) hx hb dX1_move_89 (by decide) ?_
          refine lv_istore (lv' := [(7, .int (nI 0)), (6, .int (nI (wy true (lw mv sz 2) (mk 1)))), (5, .int (nI (wy (lo io sz 0 || !se 0) (lw mv sz 0) (mk 0)))), (4, .int (nI (wy (lo io sz 3 || !se 5) (lw mv sz 3) (mk 5)))), (3, .int (nI (wy (lo io sz 0 || lo io sz 2) (lw mv sz 0) (lw mv sz 2)))), (2, .int (nI 1)), (0, .ref k0), (1, .int (b2i true))]) hx hb dX1_move_103 hl (by decide) rfl (fun ls hl => ?_)
          refine lv_iload_n hx hb dX1_move_105 rfl (lv_at hl 7 rfl) ?_
          refine kb_eq (tgt := 132) hx hb dX1_move_106 (by decide) (fun h => absurd h (by decide)) (fun _ => ?_)
          refine lv_aload_n hx hb dX1_move_109 rfl (lv_at hl 6 rfl) ?_
          refine va_get (D := D) (ci := 2) (v := .ref kt) (C := RX1) (T := TX1) (N := 10) hx hb hts hinRX1 hown hK hP 0 rfl rfl 5 (by decide) hf_24 (fun _ h9 => h9) rfl dX1_move_110 ?_
          refine lv_iconst (v := nI 5) hx hb dX1_move_113 (by decide) ?_
          refine kn_zald hx hb hK hP 5 0 rfl rfl (by omega) (by decide) dX1_move_114 ?_
          refine kb_eq (tgt := 128) hx hb dX1_move_115 (by decide) (fun c_82 => ?_) (fun c_82 => ?_)
          · refine lv_iconst (v := nI 0) hx hb dX1_move_128 (by decide) ?_
            refine lv_goto (tgt := 143) hx hb dX1_move_129 (by decide) ?_
            refine lv_istore (lv' := [(8, .int (nI 0)), (7, .int (nI 0)), (6, .int (nI (wy true (lw mv sz 2) (mk 1)))), (5, .int (nI (wy (lo io sz 0 || !se 0) (lw mv sz 0) (mk 0)))), (4, .int (nI (wy (lo io sz 3 || !se 5) (lw mv sz 3) (mk 5)))), (3, .int (nI (wy (lo io sz 0 || lo io sz 2) (lw mv sz 0) (lw mv sz 2)))), (2, .int (nI 1)), (0, .ref k0), (1, .int (b2i true))]) hx hb dX1_move_143 hl (by decide) rfl (fun ls hl => ?_)
            refine lv_aload_n hx hb dX1_move_145 rfl (lv_at hl 7 rfl) ?_
            refine lv_iload_n hx hb dX1_move_146 rfl (lv_at hl 6 rfl) ?_
            refine lv_iload hx hb dX1_move_147 (lv_at hl 1 rfl) ?_
            refine lv_iload hx hb dX1_move_149 (lv_at hl 0 rfl) ?_
            have hFc := va_free (wc := WM k0 kv ko ks km kt kp kb cZ cD cI th mv io sz mk se pv pd op mw) hD hS hA [0, 1, 2, 3, 4, 5, 6, 7] rfl
            refine wr_calli (va_runV (As := [.int (b2i true), .int (b2i false), .int (b2i false)]) (rest := []) ⟨hx, hb, hml, hown, hts⟩ (c_X1_throwing l D k0 kv ko ks km kt kp kb cZ cD cI th mv io sz mk se pv pd op mw hsz s.heap.size true false false ) (cwV 3 hts gX1_move_X1_throwing rfl rfl rfl (by decide +kernel) ⟨Nat.le_of_ble_eq_true rfl, Nat.le_of_ble_eq_true rfl⟩) ⟨fun a U g mk q => ⟨q.1, q.2.1, q.2.2.1, va_K.moved (u := U) (U := U.calling g mk a) (Vm.Alike.refl U.vm) q.2.2.2.1, q.2.2.2.2⟩, va_recv hK hP (ci := 2) (q0 := 0) rfl rfl, fun U hU hW => ⟨rfl, by rw [hU], by rw [hU]; exact hP, va_K.moved hW.alike hK, hD.weaken (fun _ _ _ _ => trivial)⟩⟩ rfl rfl hl.1 rfl (lv_room (Nat.le_of_ble_eq_true rfl)) dX1_move_151 ⟨Nat.le_of_ble_eq_true rfl, Nat.le_of_ble_eq_true rfl⟩) hS hFc (fun r_83 H locs hr_83 hP _ _ hS => ?_)
            subst hr_83
            refine kt_i (y := b2i true) rfl ?_
            have hD : va_D A (WM k0 kv ko ks km kt kp kb cZ cD cI (thr true false false) mv io sz mk se pv pd op mw) := va_D_same (ws := WM k0 kv ko ks km kt kp kb cZ cD cI th mv io sz mk se pv pd op mw) rfl hD
            have hP : va_P D vwCl (WM k0 kv ko ks km kt kp kb cZ cD cI (thr true false false) mv io sz mk se pv pd op mw) H := hP
            refine kb_eq (tgt := 159) hx hb dX1_move_154 (by decide) (fun h => absurd h (by decide)) (fun _ => ?_)
            refine lv_iconst (v := nI 0) hx hb dX1_move_157 (by decide) ?_
            refine W.widen (k := 0) (n := 0) (Nat.le_of_ble_eq_true rfl) (Nat.le_of_ble_eq_true rfl) ?_
            exact W.iret (v := nI 0) hx hb hr (fun t9 ht9 hW9 => ⟨⟨_, rfl, by rw [tMo_of (A := true) (B := false) (C := false) (c_1) (decide_eq_false (fun h => h c_81)) (and_f c_82)]; rfl, by rw [ht9, tMo_of (A := true) (B := false) (C := false) (c_1) (decide_eq_false (fun h => h c_81)) (and_f c_82)]; exact hP⟩, hS.F ht9⟩) hS.2.2 dX1_move_158
          · refine lv_iload hx hb dX1_move_118 (lv_at hl 3 rfl) ?_
            refine lv_iconst (v := nI 1) hx hb dX1_move_120 (by decide) ?_
            refine kn_icmp_eq (tgt := 128) hx hb (Nat.lt_trans (wy_lt _ _ _) (by decide)) (by decide) dX1_move_121 (by decide) (fun c_84 => ?_) (fun c_84 => ?_)
            · refine lv_iconst (v := nI 0) hx hb dX1_move_128 (by decide) ?_
              refine lv_goto (tgt := 143) hx hb dX1_move_129 (by decide) ?_
              refine lv_istore (lv' := [(8, .int (nI 0)), (7, .int (nI 0)), (6, .int (nI (wy true (lw mv sz 2) (mk 1)))), (5, .int (nI (wy (lo io sz 0 || !se 0) (lw mv sz 0) (mk 0)))), (4, .int (nI (wy (lo io sz 3 || !se 5) (lw mv sz 3) (mk 5)))), (3, .int (nI (wy (lo io sz 0 || lo io sz 2) (lw mv sz 0) (lw mv sz 2)))), (2, .int (nI 1)), (0, .ref k0), (1, .int (b2i true))]) hx hb dX1_move_143 hl (by decide) rfl (fun ls hl => ?_)
              refine lv_aload_n hx hb dX1_move_145 rfl (lv_at hl 7 rfl) ?_
              refine lv_iload_n hx hb dX1_move_146 rfl (lv_at hl 6 rfl) ?_
              refine lv_iload hx hb dX1_move_147 (lv_at hl 1 rfl) ?_
              refine lv_iload hx hb dX1_move_149 (lv_at hl 0 rfl) ?_
              have hFc := va_free (wc := WM k0 kv ko ks km kt kp kb cZ cD cI th mv io sz mk se pv pd op mw) hD hS hA [0, 1, 2, 3, 4, 5, 6, 7] rfl
              refine wr_calli (va_runV (As := [.int (b2i true), .int (b2i false), .int (b2i false)]) (rest := []) ⟨hx, hb, hml, hown, hts⟩ (c_X1_throwing l D k0 kv ko ks km kt kp kb cZ cD cI th mv io sz mk se pv pd op mw hsz s.heap.size true false false ) (cwV 3 hts gX1_move_X1_throwing rfl rfl rfl (by decide +kernel) ⟨Nat.le_of_ble_eq_true rfl, Nat.le_of_ble_eq_true rfl⟩) ⟨fun a U g mk q => ⟨q.1, q.2.1, q.2.2.1, va_K.moved (u := U) (U := U.calling g mk a) (Vm.Alike.refl U.vm) q.2.2.2.1, q.2.2.2.2⟩, va_recv hK hP (ci := 2) (q0 := 0) rfl rfl, fun U hU hW => ⟨rfl, by rw [hU], by rw [hU]; exact hP, va_K.moved hW.alike hK, hD.weaken (fun _ _ _ _ => trivial)⟩⟩ rfl rfl hl.1 rfl (lv_room (Nat.le_of_ble_eq_true rfl)) dX1_move_151 ⟨Nat.le_of_ble_eq_true rfl, Nat.le_of_ble_eq_true rfl⟩) hS hFc (fun r_85 H locs hr_85 hP _ _ hS => ?_)
              subst hr_85
              refine kt_i (y := b2i true) rfl ?_
              have hD : va_D A (WM k0 kv ko ks km kt kp kb cZ cD cI (thr true false false) mv io sz mk se pv pd op mw) := va_D_same (ws := WM k0 kv ko ks km kt kp kb cZ cD cI th mv io sz mk se pv pd op mw) rfl hD
              have hP : va_P D vwCl (WM k0 kv ko ks km kt kp kb cZ cD cI (thr true false false) mv io sz mk se pv pd op mw) H := hP
              refine kb_eq (tgt := 159) hx hb dX1_move_154 (by decide) (fun h => absurd h (by decide)) (fun _ => ?_)
              refine lv_iconst (v := nI 0) hx hb dX1_move_157 (by decide) ?_
              refine W.widen (k := 0) (n := 0) (Nat.le_of_ble_eq_true rfl) (Nat.le_of_ble_eq_true rfl) ?_
              exact W.iret (v := nI 0) hx hb hr (fun t9 ht9 hW9 => ⟨⟨_, rfl, by rw [tMo_of (A := true) (B := false) (C := false) (c_1) (decide_eq_false (fun h => h c_81)) (and_t c_82 (decide_eq_false (fun h => h c_84)))]; rfl, by rw [ht9, tMo_of (A := true) (B := false) (C := false) (c_1) (decide_eq_false (fun h => h c_81)) (and_t c_82 (decide_eq_false (fun h => h c_84)))]; exact hP⟩, hS.F ht9⟩) hS.2.2 dX1_move_158
            · refine lv_iconst (v := nI 1) hx hb dX1_move_124 (by decide) ?_
              refine lv_goto (tgt := 143) hx hb dX1_move_125 (by decide) ?_
              refine lv_istore (lv' := [(8, .int (nI 1)), (7, .int (nI 0)), (6, .int (nI (wy true (lw mv sz 2) (mk 1)))), (5, .int (nI (wy (lo io sz 0 || !se 0) (lw mv sz 0) (mk 0)))), (4, .int (nI (wy (lo io sz 3 || !se 5) (lw mv sz 3) (mk 5)))), (3, .int (nI (wy (lo io sz 0 || lo io sz 2) (lw mv sz 0) (lw mv sz 2)))), (2, .int (nI 1)), (0, .ref k0), (1, .int (b2i true))]) hx hb dX1_move_143 hl (by decide) rfl (fun ls hl => ?_)
              refine lv_aload_n hx hb dX1_move_145 rfl (lv_at hl 7 rfl) ?_
              refine lv_iload_n hx hb dX1_move_146 rfl (lv_at hl 6 rfl) ?_
              refine lv_iload hx hb dX1_move_147 (lv_at hl 1 rfl) ?_
              refine lv_iload hx hb dX1_move_149 (lv_at hl 0 rfl) ?_
              have hFc := va_free (wc := WM k0 kv ko ks km kt kp kb cZ cD cI th mv io sz mk se pv pd op mw) hD hS hA [0, 1, 2, 3, 4, 5, 6, 7] rfl
              refine wr_calli (va_runV (As := [.int (b2i true), .int (b2i false), .int (b2i true)]) (rest := []) ⟨hx, hb, hml, hown, hts⟩ (c_X1_throwing l D k0 kv ko ks km kt kp kb cZ cD cI th mv io sz mk se pv pd op mw hsz s.heap.size true false true ) (cwV 3 hts gX1_move_X1_throwing rfl rfl rfl (by decide +kernel) ⟨Nat.le_of_ble_eq_true rfl, Nat.le_of_ble_eq_true rfl⟩) ⟨fun a U g mk q => ⟨q.1, q.2.1, q.2.2.1, va_K.moved (u := U) (U := U.calling g mk a) (Vm.Alike.refl U.vm) q.2.2.2.1, q.2.2.2.2⟩, va_recv hK hP (ci := 2) (q0 := 0) rfl rfl, fun U hU hW => ⟨rfl, by rw [hU], by rw [hU]; exact hP, va_K.moved hW.alike hK, hD.weaken (fun _ _ _ _ => trivial)⟩⟩ rfl rfl hl.1 rfl (lv_room (Nat.le_of_ble_eq_true rfl)) dX1_move_151 ⟨Nat.le_of_ble_eq_true rfl, Nat.le_of_ble_eq_true rfl⟩) hS hFc (fun r_86 H locs hr_86 hP _ _ hS => ?_)
              subst hr_86
              refine kt_i (y := b2i true) rfl ?_
              have hD : va_D A (WM k0 kv ko ks km kt kp kb cZ cD cI (thr true false true) mv io sz mk se pv pd op mw) := va_D_same (ws := WM k0 kv ko ks km kt kp kb cZ cD cI th mv io sz mk se pv pd op mw) rfl hD
              have hP : va_P D vwCl (WM k0 kv ko ks km kt kp kb cZ cD cI (thr true false true) mv io sz mk se pv pd op mw) H := hP
              refine kb_eq (tgt := 159) hx hb dX1_move_154 (by decide) (fun h => absurd h (by decide)) (fun _ => ?_)
              refine lv_iconst (v := nI 0) hx hb dX1_move_157 (by decide) ?_
              refine W.widen (k := 0) (n := 0) (Nat.le_of_ble_eq_true rfl) (Nat.le_of_ble_eq_true rfl) ?_
              exact W.iret (v := nI 0) hx hb hr (fun t9 ht9 hW9 => ⟨⟨_, rfl, by rw [tMo_of (A := true) (B := false) (C := true) (c_1) (decide_eq_false (fun h => h c_81)) (and_t c_82 (decide_eq_true c_84))]; rfl, by rw [ht9, tMo_of (A := true) (B := false) (C := true) (c_1) (decide_eq_false (fun h => h c_81)) (and_t c_82 (decide_eq_true c_84))]; exact hP⟩, hS.F ht9⟩) hS.2.2 dX1_move_158
        · refine lv_iconst (v := nI 1) hx hb dX1_move_84 (by decide) ?_
          refine lv_goto (tgt := 103) hx hb dX1_move_85 (by decide) ?_
          refine lv_istore (lv' := [(7, .int (nI 1)), (6, .int (nI (wy true (lw mv sz 2) (mk 1)))), (5, .int (nI (wy (lo io sz 0 || !se 0) (lw mv sz 0) (mk 0)))), (4, .int (nI (wy (lo io sz 3 || !se 5) (lw mv sz 3) (mk 5)))), (3, .int (nI (wy (lo io sz 0 || lo io sz 2) (lw mv sz 0) (lw mv sz 2)))), (2, .int (nI 1)), (0, .ref k0), (1, .int (b2i true))]) hx hb dX1_move_103 hl (by decide) rfl (fun ls hl => ?_)
          refine lv_iload_n hx hb dX1_move_105 rfl (lv_at hl 7 rfl) ?_
          refine kb_eq (tgt := 132) hx hb dX1_move_106 (by decide) (fun h => absurd h (by decide)) (fun _ => ?_)
          refine lv_aload_n hx hb dX1_move_109 rfl (lv_at hl 6 rfl) ?_
          refine va_get (D := D) (ci := 2) (v := .ref kt) (C := RX1) (T := TX1) (N := 10) hx hb hts hinRX1 hown hK hP 0 rfl rfl 5 (by decide) hf_24 (fun _ h9 => h9) rfl dX1_move_110 ?_
          refine lv_iconst (v := nI 5) hx hb dX1_move_113 (by decide) ?_
          refine kn_zald hx hb hK hP 5 0 rfl rfl (by omega) (by decide) dX1_move_114 ?_
          refine kb_eq (tgt := 128) hx hb dX1_move_115 (by decide) (fun c_87 => ?_) (fun c_87 => ?_)
          · refine lv_iconst (v := nI 0) hx hb dX1_move_128 (by decide) ?_
            refine lv_goto (tgt := 143) hx hb dX1_move_129 (by decide) ?_
            refine lv_istore (lv' := [(8, .int (nI 0)), (7, .int (nI 1)), (6, .int (nI (wy true (lw mv sz 2) (mk 1)))), (5, .int (nI (wy (lo io sz 0 || !se 0) (lw mv sz 0) (mk 0)))), (4, .int (nI (wy (lo io sz 3 || !se 5) (lw mv sz 3) (mk 5)))), (3, .int (nI (wy (lo io sz 0 || lo io sz 2) (lw mv sz 0) (lw mv sz 2)))), (2, .int (nI 1)), (0, .ref k0), (1, .int (b2i true))]) hx hb dX1_move_143 hl (by decide) rfl (fun ls hl => ?_)
            refine lv_aload_n hx hb dX1_move_145 rfl (lv_at hl 7 rfl) ?_
            refine lv_iload_n hx hb dX1_move_146 rfl (lv_at hl 6 rfl) ?_
            refine lv_iload hx hb dX1_move_147 (lv_at hl 1 rfl) ?_
            refine lv_iload hx hb dX1_move_149 (lv_at hl 0 rfl) ?_
            have hFc := va_free (wc := WM k0 kv ko ks km kt kp kb cZ cD cI th mv io sz mk se pv pd op mw) hD hS hA [0, 1, 2, 3, 4, 5, 6, 7] rfl
            refine wr_calli (va_runV (As := [.int (b2i true), .int (b2i true), .int (b2i false)]) (rest := []) ⟨hx, hb, hml, hown, hts⟩ (c_X1_throwing l D k0 kv ko ks km kt kp kb cZ cD cI th mv io sz mk se pv pd op mw hsz s.heap.size true true false ) (cwV 3 hts gX1_move_X1_throwing rfl rfl rfl (by decide +kernel) ⟨Nat.le_of_ble_eq_true rfl, Nat.le_of_ble_eq_true rfl⟩) ⟨fun a U g mk q => ⟨q.1, q.2.1, q.2.2.1, va_K.moved (u := U) (U := U.calling g mk a) (Vm.Alike.refl U.vm) q.2.2.2.1, q.2.2.2.2⟩, va_recv hK hP (ci := 2) (q0 := 0) rfl rfl, fun U hU hW => ⟨rfl, by rw [hU], by rw [hU]; exact hP, va_K.moved hW.alike hK, hD.weaken (fun _ _ _ _ => trivial)⟩⟩ rfl rfl hl.1 rfl (lv_room (Nat.le_of_ble_eq_true rfl)) dX1_move_151 ⟨Nat.le_of_ble_eq_true rfl, Nat.le_of_ble_eq_true rfl⟩) hS hFc (fun r_88 H locs hr_88 hP _ _ hS => ?_)
            subst hr_88
            refine kt_i (y := b2i true) rfl ?_
            have hD : va_D A (WM k0 kv ko ks km kt kp kb cZ cD cI (thr true true false) mv io sz mk se pv pd op mw) := va_D_same (ws := WM k0 kv ko ks km kt kp kb cZ cD cI th mv io sz mk se pv pd op mw) rfl hD
            have hP : va_P D vwCl (WM k0 kv ko ks km kt kp kb cZ cD cI (thr true true false) mv io sz mk se pv pd op mw) H := hP
            refine kb_eq (tgt := 159) hx hb dX1_move_154 (by decide) (fun h => absurd h (by decide)) (fun _ => ?_)
            refine lv_iconst (v := nI 0) hx hb dX1_move_157 (by decide) ?_
            refine W.widen (k := 0) (n := 0) (Nat.le_of_ble_eq_true rfl) (Nat.le_of_ble_eq_true rfl) ?_
            exact W.iret (v := nI 0) hx hb hr (fun t9 ht9 hW9 => ⟨⟨_, rfl, by rw [tMo_of (A := true) (B := true) (C := false) (c_1) (decide_eq_true c_81) (and_f c_87)]; rfl, by rw [ht9, tMo_of (A := true) (B := true) (C := false) (c_1) (decide_eq_true c_81) (and_f c_87)]; exact hP⟩, hS.F ht9⟩) hS.2.2 dX1_move_158
          · refine lv_iload hx hb dX1_move_118 (lv_at hl 3 rfl) ?_
            refine lv_iconst (v := nI 1) hx hb dX1_move_120 (by decide) ?_
            refine kn_icmp_eq (tgt := 128) hx hb (Nat.lt_trans (wy_lt _ _ _) (by decide)) (by decide) dX1_move_121 (by decide) (fun c_89 => ?_) (fun c_89 => ?_)
            · refine lv_iconst (v := nI 0) hx hb dX1_move_128 (by decide) ?_
              refine lv_goto (tgt := 143) hx hb dX1_move_129 (by decide) ?_
              refine lv_istore (lv' := [(8, .int (nI 0)), (7, .int (nI 1)), (6, .int (nI (wy true (lw mv sz 2) (mk 1)))), (5, .int (nI (wy (lo io sz 0 || !se 0) (lw mv sz 0) (mk 0)))), (4, .int (nI (wy (lo io sz 3 || !se 5) (lw mv sz 3) (mk 5)))), (3, .int (nI (wy (lo io sz 0 || lo io sz 2) (lw mv sz 0) (lw mv sz 2)))), (2, .int (nI 1)), (0, .ref k0), (1, .int (b2i true))]) hx hb dX1_move_143 hl (by decide) rfl (fun ls hl => ?_)
              refine lv_aload_n hx hb dX1_move_145 rfl (lv_at hl 7 rfl) ?_
              refine lv_iload_n hx hb dX1_move_146 rfl (lv_at hl 6 rfl) ?_
              refine lv_iload hx hb dX1_move_147 (lv_at hl 1 rfl) ?_
              refine lv_iload hx hb dX1_move_149 (lv_at hl 0 rfl) ?_
              have hFc := va_free (wc := WM k0 kv ko ks km kt kp kb cZ cD cI th mv io sz mk se pv pd op mw) hD hS hA [0, 1, 2, 3, 4, 5, 6, 7] rfl
              refine wr_calli (va_runV (As := [.int (b2i true), .int (b2i true), .int (b2i false)]) (rest := []) ⟨hx, hb, hml, hown, hts⟩ (c_X1_throwing l D k0 kv ko ks km kt kp kb cZ cD cI th mv io sz mk se pv pd op mw hsz s.heap.size true true false ) (cwV 3 hts gX1_move_X1_throwing rfl rfl rfl (by decide +kernel) ⟨Nat.le_of_ble_eq_true rfl, Nat.le_of_ble_eq_true rfl⟩) ⟨fun a U g mk q => ⟨q.1, q.2.1, q.2.2.1, va_K.moved (u := U) (U := U.calling g mk a) (Vm.Alike.refl U.vm) q.2.2.2.1, q.2.2.2.2⟩, va_recv hK hP (ci := 2) (q0 := 0) rfl rfl, fun U hU hW => ⟨rfl, by rw [hU], by rw [hU]; exact hP, va_K.moved hW.alike hK, hD.weaken (fun _ _ _ _ => trivial)⟩⟩ rfl rfl hl.1 rfl (lv_room (Nat.le_of_ble_eq_true rfl)) dX1_move_151 ⟨Nat.le_of_ble_eq_true rfl, Nat.le_of_ble_eq_true rfl⟩) hS hFc (fun r_90 H locs hr_90 hP _ _ hS => ?_)
              subst hr_90
              refine kt_i (y := b2i true) rfl ?_
              have hD : va_D A (WM k0 kv ko ks km kt kp kb cZ cD cI (thr true true false) mv io sz mk se pv pd op mw) := va_D_same (ws := WM k0 kv ko ks km kt kp kb cZ cD cI th mv io sz mk se pv pd op mw) rfl hD
              have hP : va_P D vwCl (WM k0 kv ko ks km kt kp kb cZ cD cI (thr true true false) mv io sz mk se pv pd op mw) H := hP
              refine kb_eq (tgt := 159) hx hb dX1_move_154 (by decide) (fun h => absurd h (by decide)) (fun _ => ?_)
              refine lv_iconst (v := nI 0) hx hb dX1_move_157 (by decide) ?_
              refine W.widen (k := 0) (n := 0) (Nat.le_of_ble_eq_true rfl) (Nat.le_of_ble_eq_true rfl) ?_
              exact W.iret (v := nI 0) hx hb hr (fun t9 ht9 hW9 => ⟨⟨_, rfl, by rw [tMo_of (A := true) (B := true) (C := false) (c_1) (decide_eq_true c_81) (and_t c_87 (decide_eq_false (fun h => h c_89)))]; rfl, by rw [ht9, tMo_of (A := true) (B := true) (C := false) (c_1) (decide_eq_true c_81) (and_t c_87 (decide_eq_false (fun h => h c_89)))]; exact hP⟩, hS.F ht9⟩) hS.2.2 dX1_move_158
            · refine lv_iconst (v := nI 1) hx hb dX1_move_124 (by decide) ?_
              refine lv_goto (tgt := 143) hx hb dX1_move_125 (by decide) ?_
              refine lv_istore (lv' := [(8, .int (nI 1)), (7, .int (nI 1)), (6, .int (nI (wy true (lw mv sz 2) (mk 1)))), (5, .int (nI (wy (lo io sz 0 || !se 0) (lw mv sz 0) (mk 0)))), (4, .int (nI (wy (lo io sz 3 || !se 5) (lw mv sz 3) (mk 5)))), (3, .int (nI (wy (lo io sz 0 || lo io sz 2) (lw mv sz 0) (lw mv sz 2)))), (2, .int (nI 1)), (0, .ref k0), (1, .int (b2i true))]) hx hb dX1_move_143 hl (by decide) rfl (fun ls hl => ?_)
              refine lv_aload_n hx hb dX1_move_145 rfl (lv_at hl 7 rfl) ?_
              refine lv_iload_n hx hb dX1_move_146 rfl (lv_at hl 6 rfl) ?_
              refine lv_iload hx hb dX1_move_147 (lv_at hl 1 rfl) ?_
              refine lv_iload hx hb dX1_move_149 (lv_at hl 0 rfl) ?_
              have hFc := va_free (wc := WM k0 kv ko ks km kt kp kb cZ cD cI th mv io sz mk se pv pd op mw) hD hS hA [0, 1, 2, 3, 4, 5, 6, 7] rfl
              refine wr_calli (va_runV (As := [.int (b2i true), .int (b2i true), .int (b2i true)]) (rest := []) ⟨hx, hb, hml, hown, hts⟩ (c_X1_throwing l D k0 kv ko ks km kt kp kb cZ cD cI th mv io sz mk se pv pd op mw hsz s.heap.size true true true ) (cwV 3 hts gX1_move_X1_throwing rfl rfl rfl (by decide +kernel) ⟨Nat.le_of_ble_eq_true rfl, Nat.le_of_ble_eq_true rfl⟩) ⟨fun a U g mk q => ⟨q.1, q.2.1, q.2.2.1, va_K.moved (u := U) (U := U.calling g mk a) (Vm.Alike.refl U.vm) q.2.2.2.1, q.2.2.2.2⟩, va_recv hK hP (ci := 2) (q0 := 0) rfl rfl, fun U hU hW => ⟨rfl, by rw [hU], by rw [hU]; exact hP, va_K.moved hW.alike hK, hD.weaken (fun _ _ _ _ => trivial)⟩⟩ rfl rfl hl.1 rfl (lv_room (Nat.le_of_ble_eq_true rfl)) dX1_move_151 ⟨Nat.le_of_ble_eq_true rfl, Nat.le_of_ble_eq_true rfl⟩) hS hFc (fun r_91 H locs hr_91 hP _ _ hS => ?_)
              subst hr_91
              refine kt_i (y := b2i true) rfl ?_
              have hD : va_D A (WM k0 kv ko ks km kt kp kb cZ cD cI (thr true true true) mv io sz mk se pv pd op mw) := va_D_same (ws := WM k0 kv ko ks km kt kp kb cZ cD cI th mv io sz mk se pv pd op mw) rfl hD
              have hP : va_P D vwCl (WM k0 kv ko ks km kt kp kb cZ cD cI (thr true true true) mv io sz mk se pv pd op mw) H := hP
              refine kb_eq (tgt := 159) hx hb dX1_move_154 (by decide) (fun h => absurd h (by decide)) (fun _ => ?_)
              refine lv_iconst (v := nI 0) hx hb dX1_move_157 (by decide) ?_
              refine W.widen (k := 0) (n := 0) (Nat.le_of_ble_eq_true rfl) (Nat.le_of_ble_eq_true rfl) ?_
              exact W.iret (v := nI 0) hx hb hr (fun t9 ht9 hW9 => ⟨⟨_, rfl, by rw [tMo_of (A := true) (B := true) (C := true) (c_1) (decide_eq_true c_81) (and_t c_87 (decide_eq_true c_89))]; rfl, by rw [ht9, tMo_of (A := true) (B := true) (C := true) (c_1) (decide_eq_true c_81) (and_t c_87 (decide_eq_true c_89))]; exact hP⟩, hS.F ht9⟩) hS.2.2 dX1_move_158
set_option maxHeartbeats 4000000 in
set_option maxRecDepth 100000 in
theorem c_X1_move_false (l : Launch) (D : va_G) (k0 kv ko ks km kt kp kb : Nat) (cZ cD cI : ClassId) (th : Nat) (mv : Nat → UInt64) (io : Nat → Bool) (sz : Nat → Nat) (mk : Nat → UInt64) (se : Nat → Bool) (pv : Nat → UInt64) (pd : Nat → Bool) (op : Bool) (mw : Int32) (hsz : ∀ j, sz j ≤ 12) (zz : Nat)  : Met l yX1_move wsX1_move ({ frames := 3, cells := 0, slots := 0, locals := 64 }) (va_Pc [.ref k0, .int (b2i false)] (fun U => U.heap.size = zz ∧ va_P D vwCl (WM k0 kv ko ks km kt kp kb cZ cD cI th mv io sz mk se pv pd op mw) U.heap ∧ va_K D vwCl (TY cZ cD cI) U ∧ va_D (fun _ => True) (WM k0 kv ko ks km kt kp kb cZ cD cI th mv io sz mk se pv pd op mw))) (wr_Qi (fun r => r = (if (tMs io mv sz mk se op) = 0 then mw + 1 else 0)) (fun H => va_P D vwCl (WM k0 kv ko ks km kt kp kb cZ cD cI (tMs io mv sz mk se op) mv io sz mk se pv pd (if (tMs io mv sz mk se op) = 0 then false else op) (if (tMs io mv sz mk se op) = 0 then mw + 1 else mw)) H) (va_A (WM k0 kv ko ks km kt kp kb cZ cD cI th mv io sz mk se pv pd op mw) zz))  0 0 (va_A (WM k0 kv ko ks km kt kp kb cZ cD cI th mv io sz mk se pv pd op mw) zz) := by
  refine Met.ofW (cc := cX1_move) (maxL := 9) (ret := some .int) (by decide) rfl ?_
  intro p e s m args below meth c s₁ B hml hv
  obtain ⟨rfl, hsz_, hP, hK, hD0⟩ := hv
  have hx := B.exec
  have hb := B.bytes
  have hr := B.returns
  have hts := atoms_spec (ws := wsX1_move) B.pre
  have hown : s.vm.findClass RX1 = some m.cls := findClass_of_methodNamed B.named
  have hlocks := B.notSynchronized
  subst hsz_
  have hD := hD0.self (sz := s.heap.size)
  generalize hAe : va_A (WM k0 kv ko ks km kt kp kb cZ cD cI th mv io sz mk se pv pd op mw) s.heap.size = A at hD ⊢
  have hA : ∀ q : Nat, s.heap.size ≤ q → A q := fun q h => by rw [← hAe]; exact Or.inr h
  have hS : va_S A s.heap s.heap [] := va_S.rf
  have hl := lv_entry ([.ref k0, .int (b2i false)]) (n := 9) (Nat.le_of_ble_eq_true rfl)
  rw [lg_entry_eq]
  generalize (lg_sl ([.ref k0, .int (b2i false)]) ++ List.replicate (9 - (lg_sl ([.ref k0, .int (b2i false)])).length) Slot.unset).toArray = ls at hl ⊢
  have hl : lv_has ls 9 [(0, .ref k0), (1, .int (b2i false))] := hl
  have hinRX1 : ∀ w ∈ wsX10, w ∈ wsX1_move := by decide +kernel
  have hf_111 := hts (.fieldLink RX1 111 "HarbourBoardModel" "isOpen" "Z") (by decide +kernel)
  have hf_21 := hts (.fieldLink RX1 21 "HarbourBoardModel" "markValue" "[D") (by decide +kernel)
  have hf_115 := hts (.fieldLink RX1 115 "HarbourBoardModel" "moves" "I") (by decide +kernel)
  have hf_24 := hts (.fieldLink RX1 24 "HarbourBoardModel" "isSet" "[Z") (by decide +kernel)
  refine lv_aload_n hx hb dX1_move_0 rfl (lv_at hl 0 rfl) ?_
  refine va_get (D := D) (ci := 2) (v := .int (b2i op)) (C := RX1) (T := TX1) (N := 10) hx hb hts hinRX1 hown hK hP 0 rfl rfl 8 (by decide) hf_111 (fun _ h9 => h9) rfl dX1_move_1 ?_
  refine lv_iload_n hx hb dX1_move_4 rfl (lv_at hl 1 rfl) ?_
  refine kb_icmp_ne (tgt := 12) hx hb dX1_move_5 (by decide) (fun c_1 => ?_) (fun c_1 => ?_)
  · refine lv_iconst (v := nI 0) hx hb dX1_move_12 (by decide) ?_
    refine lv_istore_n (lv' := [(2, .int (nI 0)), (0, .ref k0), (1, .int (b2i false))]) hx hb dX1_move_13 rfl hl (by decide) rfl (fun ls hl => ?_)
    refine lv_aload_n hx hb dX1_move_14 rfl (lv_at hl 1 rfl) ?_
    refine lv_iconst (v := nI 0) hx hb dX1_move_15 (by decide) ?_
    refine lv_iconst (v := nI 2) hx hb dX1_move_16 (by decide) ?_
    refine rd_calli (va_runV (As := [.int (nI 0), .int (nI 2)]) (rest := []) ⟨hx, hb, hml, hown, hts⟩ (c_X1_latestWay l D k0 kv ko ks km kt kp kb cZ cD cI th mv io sz mk se pv pd op mw hsz 0 2 (by omega) (by omega)) (cwV 2 hts gX1_move_X1_latestWay rfl rfl rfl (by decide +kernel) ⟨Nat.le_of_ble_eq_true rfl, Nat.le_of_ble_eq_true rfl⟩) ⟨fun a U g mk q => ⟨q.1, q.2.1, va_K.moved (u := U) (U := U.calling g mk a) (Vm.Alike.refl U.vm) q.2.2⟩, va_recv hK hP (ci := 2) (q0 := 0) rfl rfl, fun U hU hW => ⟨rfl, by rw [hU]; exact hP, va_K.moved hW.alike hK⟩⟩ rfl rfl hl.1 rfl (lv_room (Nat.le_of_ble_eq_true rfl)) dX1_move_17 ⟨Nat.le_of_ble_eq_true rfl, Nat.le_of_ble_eq_true rfl⟩) (fun r_2 hr_2 => ?_)
    subst hr_2
    refine lv_istore_n (lv' := [(3, .int (nI (wy (lo io sz 0 || lo io sz 2) (lw mv sz 0) (lw mv sz 2)))), (2, .int (nI 0)), (0, .ref k0), (1, .int (b2i false))]) hx hb dX1_move_20 rfl hl (by decide) rfl (fun ls hl => ?_)
    refine lv_aload_n hx hb dX1_move_21 rfl (lv_at hl 2 rfl) ?_
    refine lv_iconst (v := nI 3) hx hb dX1_move_22 (by decide) ?_
    refine lv_iconst (v := nI 5) hx hb dX1_move_23 (by decide) ?_
    refine rd_calli (va_runV (As := [.int (nI 3), .int (nI 5)]) (rest := []) ⟨hx, hb, hml, hown, hts⟩ (c_X1_markWay l D k0 kv ko ks km kt kp kb cZ cD cI th mv io sz mk se pv pd op mw hsz 3 5 (by omega) (by omega)) (cwV 2 hts gX1_move_X1_markWay rfl rfl rfl (by decide +kernel) ⟨Nat.le_of_ble_eq_true rfl, Nat.le_of_ble_eq_true rfl⟩) ⟨fun a U g mk q => ⟨q.1, q.2.1, va_K.moved (u := U) (U := U.calling g mk a) (Vm.Alike.refl U.vm) q.2.2⟩, va_recv hK hP (ci := 2) (q0 := 0) rfl rfl, fun U hU hW => ⟨rfl, by rw [hU]; exact hP, va_K.moved hW.alike hK⟩⟩ rfl rfl hl.1 rfl (lv_room (Nat.le_of_ble_eq_true rfl)) dX1_move_24 ⟨Nat.le_of_ble_eq_true rfl, Nat.le_of_ble_eq_true rfl⟩) (fun r_3 hr_3 => ?_)
    subst hr_3
    refine lv_istore (lv' := [(4, .int (nI (wy (lo io sz 3 || !se 5) (lw mv sz 3) (mk 5)))), (3, .int (nI (wy (lo io sz 0 || lo io sz 2) (lw mv sz 0) (lw mv sz 2)))), (2, .int (nI 0)), (0, .ref k0), (1, .int (b2i false))]) hx hb dX1_move_27 hl (by decide) rfl (fun ls hl => ?_)
    refine lv_aload_n hx hb dX1_move_29 rfl (lv_at hl 3 rfl) ?_
    refine lv_iconst (v := nI 0) hx hb dX1_move_30 (by decide) ?_
    refine lv_iconst (v := nI 0) hx hb dX1_move_31 (by decide) ?_
    refine rd_calli (va_runV (As := [.int (nI 0), .int (nI 0)]) (rest := []) ⟨hx, hb, hml, hown, hts⟩ (c_X1_markWay l D k0 kv ko ks km kt kp kb cZ cD cI th mv io sz mk se pv pd op mw hsz 0 0 (by omega) (by omega)) (cwV 2 hts gX1_move_X1_markWay rfl rfl rfl (by decide +kernel) ⟨Nat.le_of_ble_eq_true rfl, Nat.le_of_ble_eq_true rfl⟩) ⟨fun a U g mk q => ⟨q.1, q.2.1, va_K.moved (u := U) (U := U.calling g mk a) (Vm.Alike.refl U.vm) q.2.2⟩, va_recv hK hP (ci := 2) (q0 := 0) rfl rfl, fun U hU hW => ⟨rfl, by rw [hU]; exact hP, va_K.moved hW.alike hK⟩⟩ rfl rfl hl.1 rfl (lv_room (Nat.le_of_ble_eq_true rfl)) dX1_move_32 ⟨Nat.le_of_ble_eq_true rfl, Nat.le_of_ble_eq_true rfl⟩) (fun r_4 hr_4 => ?_)
    subst hr_4
    refine lv_istore (lv' := [(5, .int (nI (wy (lo io sz 0 || !se 0) (lw mv sz 0) (mk 0)))), (4, .int (nI (wy (lo io sz 3 || !se 5) (lw mv sz 3) (mk 5)))), (3, .int (nI (wy (lo io sz 0 || lo io sz 2) (lw mv sz 0) (lw mv sz 2)))), (2, .int (nI 0)), (0, .ref k0), (1, .int (b2i false))]) hx hb dX1_move_35 hl (by decide) rfl (fun ls hl => ?_)
    refine lv_aload_n hx hb dX1_move_37 rfl (lv_at hl 4 rfl) ?_
    refine lv_iconst (v := nI 2) hx hb dX1_move_38 (by decide) ?_
    refine rd_calli (va_runV (As := [.int (nI 2)]) (rest := []) ⟨hx, hb, hml, hown, hts⟩ (c_X1_latestOut l D k0 kv ko ks km kt kp kb cZ cD cI th mv io sz mk se pv pd op mw hsz 2 (by omega)) (cwV 1 hts gX1_move_X1_latestOut rfl rfl rfl (by decide +kernel) ⟨Nat.le_of_ble_eq_true rfl, Nat.le_of_ble_eq_true rfl⟩) ⟨fun a U g mk q => ⟨q.1, q.2.1, va_K.moved (u := U) (U := U.calling g mk a) (Vm.Alike.refl U.vm) q.2.2⟩, va_recv hK hP (ci := 2) (q0 := 0) rfl rfl, fun U hU hW => ⟨rfl, by rw [hU]; exact hP, va_K.moved hW.alike hK⟩⟩ rfl rfl hl.1 rfl (lv_room (Nat.le_of_ble_eq_true rfl)) dX1_move_39 ⟨Nat.le_of_ble_eq_true rfl, Nat.le_of_ble_eq_true rfl⟩) (fun r_5 hr_5 => ?_)
    subst hr_5
    refine kb_ne (tgt := 54) hx hb dX1_move_42 (by decide) (fun c_6 => ?_) (fun c_6 => ?_)
    · refine lv_iconst (v := nI 1) hx hb dX1_move_54 (by decide) ?_
      refine lv_goto (tgt := 59) hx hb dX1_move_55 (by decide) ?_
      refine lv_aload_n hx hb dX1_move_59 rfl (lv_at hl 4 rfl) ?_
      refine lv_iconst (v := nI 2) hx hb dX1_move_60 (by decide) ?_
      refine rd_calld (va_runV (As := [.int (nI 2)]) (rest := [.int (nI 1)]) ⟨hx, hb, hml, hown, hts⟩ (c_X1_latestValue l D k0 kv ko ks km kt kp kb cZ cD cI th mv io sz mk se pv pd op mw hsz 2 (by omega)) (cwV 1 hts gX1_move_X1_latestValue rfl rfl rfl (by decide +kernel) ⟨Nat.le_of_ble_eq_true rfl, Nat.le_of_ble_eq_true rfl⟩) ⟨fun a U g mk q => ⟨q.1, q.2.1, va_K.moved (u := U) (U := U.calling g mk a) (Vm.Alike.refl U.vm) q.2.2⟩, va_recv hK hP (ci := 2) (q0 := 0) rfl rfl, fun U hU hW => ⟨rfl, by rw [hU]; exact hP, va_K.moved hW.alike hK⟩⟩ rfl rfl hl.1 rfl (lv_room (Nat.le_of_ble_eq_true rfl)) dX1_move_61 ⟨Nat.le_of_ble_eq_true rfl, Nat.le_of_ble_eq_true rfl⟩) (fun r_7 hr_7 => ?_)
      subst hr_7
      refine lv_aload_n hx hb dX1_move_64 rfl (lv_at hl 4 rfl) ?_
      refine va_get (D := D) (ci := 2) (v := .ref km) (C := RX1) (T := TX1) (N := 10) hx hb hts hinRX1 hown hK hP 0 rfl rfl 4 (by decide) hf_21 (fun _ h9 => h9) rfl dX1_move_65 ?_
      refine lv_iconst (v := nI 1) hx hb dX1_move_68 (by decide) ?_
      refine kn_dald hx hb hK hP 4 1 rfl rfl (by omega) (by decide) dX1_move_69 ?_
      refine rd_calli (va_runS (As := [.int (b2i true), .double (lw mv sz 2), .double (mk 1)]) (rest := []) ⟨hx, hb, hml, hown, hts⟩ (c_X1_way l true (lw mv sz 2) (mk 1) ) (va_cwS 3 hts gX1_move_X1_way rfl rfl rfl (by decide +kernel) ⟨Nat.le_of_ble_eq_true rfl, Nat.le_of_ble_eq_true rfl⟩) ⟨fun a U g mk q => q, fun U hU hW => ⟨rfl, trivial⟩⟩ rfl rfl hl.1 rfl (lv_room (Nat.le_of_ble_eq_true rfl)) dX1_move_70 ⟨Nat.le_of_ble_eq_true rfl, Nat.le_of_ble_eq_true rfl⟩) (fun r_8 hr_8 => ?_)
      subst hr_8
      refine lv_istore (lv' := [(6, .int (nI (wy true (lw mv sz 2) (mk 1)))), (5, .int (nI (wy (lo io sz 0 || !se 0) (lw mv sz 0) (mk 0)))), (4, .int (nI (wy (lo io sz 3 || !se 5) (lw mv sz 3) (mk 5)))), (3, .int (nI (wy (lo io sz 0 || lo io sz 2) (lw mv sz 0) (lw mv sz 2)))), (2, .int (nI 0)), (0, .ref k0), (1, .int (b2i false))]) hx hb dX1_move_73 hl (by decide) rfl (fun ls hl => ?_)
      refine lv_iload_n hx hb dX1_move_75 rfl (lv_at hl 6 rfl) ?_
      refine kb_eq (tgt := 92) hx hb dX1_move_76 (by decide) (fun _ => ?_) (fun h => absurd h (by decide))
      refine lv_iload hx hb dX1_move_92 (lv_at hl 1 rfl) ?_
      refine lv_iconst (v := nI 4) hx hb dX1_move_94 (by decide) ?_
      refine kn_icmp_ne (tgt := 102) hx hb (Nat.lt_trans (wy_lt _ _ _) (by decide)) (by decide) dX1_move_95 (by decide) (fun c_9 => ?_) (fun c_9 => ?_)
      · refine lv_iconst (v := nI 0) hx hb dX1_move_102 (by decide) ?_
        refine lv_istore (lv' := [(7, .int (nI 0)), (6, .int (nI (wy true (lw mv sz 2) (mk 1)))), (5, .int (nI (wy (lo io sz 0 || !se 0) (lw mv sz 0) (mk 0)))), (4, .int (nI (wy (lo io sz 3 || !se 5) (lw mv sz 3) (mk 5)))), (3, .int (nI (wy (lo io sz 0 || lo io sz 2) (lw mv sz 0) (lw mv sz 2)))), (2, .int (nI 0)), (0, .ref k0), (1, .int (b2i false))]) hx hb dX1_move_103 hl (by decide) rfl (fun ls hl => ?_)
        refine lv_iload_n hx hb dX1_move_105 rfl (lv_at hl 7 rfl) ?_
        refine kb_eq (tgt := 132) hx hb dX1_move_106 (by decide) (fun _ => ?_) (fun h => absurd h (by decide))
        refine lv_iload hx hb dX1_move_132 (lv_at hl 1 rfl) ?_
        refine lv_iconst (v := nI 4) hx hb dX1_move_134 (by decide) ?_
        refine kn_icmp_ge (tgt := 142) hx hb (Nat.lt_trans (wy_lt _ _ _) (by decide)) (by decide) dX1_move_135 (by decide) (fun c_10 => ?_) (fun c_10 => ?_)
        · refine lv_iconst (v := nI 0) hx hb dX1_move_142 (by decide) ?_
          refine lv_istore (lv' := [(8, .int (nI 0)), (7, .int (nI 0)), (6, .int (nI (wy true (lw mv sz 2) (mk 1)))), (5, .int (nI (wy (lo io sz 0 || !se 0) (lw mv sz 0) (mk 0)))), (4, .int (nI (wy (lo io sz 3 || !se 5) (lw mv sz 3) (mk 5)))), (3, .int (nI (wy (lo io sz 0 || lo io sz 2) (lw mv sz 0) (lw mv sz 2)))), (2, .int (nI 0)), (0, .ref k0), (1, .int (b2i false))]) hx hb dX1_move_143 hl (by decide) rfl (fun ls hl => ?_)
          refine lv_aload_n hx hb dX1_move_145 rfl (lv_at hl 7 rfl) ?_
          refine lv_iload_n hx hb dX1_move_146 rfl (lv_at hl 6 rfl) ?_
          refine lv_iload hx hb dX1_move_147 (lv_at hl 1 rfl) ?_
          refine lv_iload hx hb dX1_move_149 (lv_at hl 0 rfl) ?_
          have hFc := va_free (wc := WM k0 kv ko ks km kt kp kb cZ cD cI th mv io sz mk se pv pd op mw) hD hS hA [0, 1, 2, 3, 4, 5, 6, 7] rfl
          refine wr_calli (va_runV (As := [.int (b2i false), .int (b2i false), .int (b2i false)]) (rest := []) ⟨hx, hb, hml, hown, hts⟩ (c_X1_throwing l D k0 kv ko ks km kt kp kb cZ cD cI th mv io sz mk se pv pd op mw hsz s.heap.size false false false ) (cwV 3 hts gX1_move_X1_throwing rfl rfl rfl (by decide +kernel) ⟨Nat.le_of_ble_eq_true rfl, Nat.le_of_ble_eq_true rfl⟩) ⟨fun a U g mk q => ⟨q.1, q.2.1, q.2.2.1, va_K.moved (u := U) (U := U.calling g mk a) (Vm.Alike.refl U.vm) q.2.2.2.1, q.2.2.2.2⟩, va_recv hK hP (ci := 2) (q0 := 0) rfl rfl, fun U hU hW => ⟨rfl, by rw [hU], by rw [hU]; exact hP, va_K.moved hW.alike hK, hD.weaken (fun _ _ _ _ => trivial)⟩⟩ rfl rfl hl.1 rfl (lv_room (Nat.le_of_ble_eq_true rfl)) dX1_move_151 ⟨Nat.le_of_ble_eq_true rfl, Nat.le_of_ble_eq_true rfl⟩) hS hFc (fun r_11 H locs hr_11 hP _ _ hS => ?_)
          subst hr_11
          refine kt_i (y := b2i false) rfl ?_
          have hD : va_D A (WM k0 kv ko ks km kt kp kb cZ cD cI (thr false false false) mv io sz mk se pv pd op mw) := va_D_same (ws := WM k0 kv ko ks km kt kp kb cZ cD cI th mv io sz mk se pv pd op mw) rfl hD
          have hP : va_P D vwCl (WM k0 kv ko ks km kt kp kb cZ cD cI (thr false false false) mv io sz mk se pv pd op mw) H := hP
          refine kb_eq (tgt := 159) hx hb dX1_move_154 (by decide) (fun _ => ?_) (fun h => absurd h (by decide))
          refine lv_aload_n hx hb dX1_move_159 rfl (lv_at hl 7 rfl) ?_
          refine lv_iload_n hx hb dX1_move_160 rfl (lv_at hl 8 rfl) ?_
          refine va_put (D := D) (ci := 2) (v := .int (b2i false)) (ty := .boolean) (C := RX1) (T := TX1) (N := 10) hx hb hts hinRX1 tyX1 tyX1_ok nmX1 hown hK hP hD hS 0 rfl rfl 8 (by decide) hf_111 (fun _ h9 => h9) rfl (by decide +kernel) (b2i_nar _) (b2i_fit _) (Nat.le_of_ble_eq_true rfl) dX1_move_161 (fun H locs hP hD hS => ?_)
          have hP : va_P D vwCl (WM k0 kv ko ks km kt kp kb cZ cD cI (thr false false false) mv io sz mk se pv pd false mw) H := hP
          have hD : va_D A (WM k0 kv ko ks km kt kp kb cZ cD cI (thr false false false) mv io sz mk se pv pd false mw) := hD
          refine lv_aload_n hx hb dX1_move_164 rfl (lv_at hl 7 rfl) ?_
          refine lv_dup hx hb dX1_move_165 rfl ?_
          refine va_get (D := D) (ci := 2) (v := .int mw) (C := RX1) (T := TX1) (N := 10) hx hb hts hinRX1 hown hK hP 0 rfl rfl 9 (by decide) hf_115 (fun _ h9 => h9) rfl dX1_move_166 ?_
          refine lv_iconst (v := nI 1) hx hb dX1_move_169 (by decide) ?_
          refine lv_iadd hx hb dX1_move_170 ?_
          refine va_put (D := D) (ci := 2) (v := .int (mw + (nI 1))) (ty := .int) (C := RX1) (T := TX1) (N := 10) hx hb hts hinRX1 tyX1 tyX1_ok nmX1 hown hK hP hD hS 0 rfl rfl 9 (by decide) hf_115 (fun _ h9 => h9) rfl (by decide +kernel) rfl rfl (Nat.le_of_ble_eq_true rfl) dX1_move_171 (fun H locs hP hD hS => ?_)
          have hP : va_P D vwCl (WM k0 kv ko ks km kt kp kb cZ cD cI (thr false false false) mv io sz mk se pv pd false (mw + (nI 1))) H := hP
          have hD : va_D A (WM k0 kv ko ks km kt kp kb cZ cD cI (thr false false false) mv io sz mk se pv pd false (mw + (nI 1))) := hD
          refine lv_aload_n hx hb dX1_move_174 rfl (lv_at hl 7 rfl) ?_
          refine va_get (D := D) (ci := 2) (v := .int (mw + (nI 1))) (C := RX1) (T := TX1) (N := 10) hx hb hts hinRX1 hown hK hP 0 rfl rfl 9 (by decide) hf_115 (fun _ h9 => h9) rfl dX1_move_175 ?_
          refine W.widen (k := 0) (n := 0) (Nat.le_of_ble_eq_true rfl) (Nat.le_of_ble_eq_true rfl) ?_
          exact W.iret (v := mw + (nI 1)) hx hb hr (fun t9 ht9 hW9 => ⟨⟨_, rfl, by rw [tMs_of (A := false) (B := false) (C := false) (by simp [bnt c_1]) (decide_eq_false c_9) (by rw [show (lo io sz 2 || !se 1) = true from by simp [c_6]]; exact decide_eq_false (Nat.not_lt.mpr c_10))]; rfl, by rw [ht9, tMs_of (A := false) (B := false) (C := false) (by simp [bnt c_1]) (decide_eq_false c_9) (by rw [show (lo io sz 2 || !se 1) = true from by simp [c_6]]; exact decide_eq_false (Nat.not_lt.mpr c_10))]; exact hP⟩, hS.F ht9⟩) hS.2.2 dX1_move_178
        · refine lv_iconst (v := nI 1) hx hb dX1_move_138 (by decide) ?_
          refine lv_goto (tgt := 143) hx hb dX1_move_139 (by decide) ?_
          refine lv_istore (lv' := [(8, .int (nI 1)), (7, .int (nI 0)), (6, .int (nI (wy true (lw mv sz 2) (mk 1)))), (5, .int (nI (wy (lo io sz 0 || !se 0) (lw mv sz 0) (mk 0)))), (4, .int (nI (wy (lo io sz 3 || !se 5) (lw mv sz 3) (mk 5)))), (3, .int (nI (wy (lo io sz 0 || lo io sz 2) (lw mv sz 0) (lw mv sz 2)))), (2, .int (nI 0)), (0, .ref k0), (1, .int (b2i false))]) hx hb dX1_move_143 hl (by decide) rfl (fun ls hl => ?_)
          refine lv_aload_n hx hb dX1_move_145 rfl (lv_at hl 7 rfl) ?_
          refine lv_iload_n hx hb dX1_move_146 rfl (lv_at hl 6 rfl) ?_
          refine lv_iload hx hb dX1_move_147 (lv_at hl 1 rfl) ?_
          refine lv_iload hx hb dX1_move_149 (lv_at hl 0 rfl) ?_
          have hFc := va_free (wc := WM k0 kv ko ks km kt kp kb cZ cD cI th mv io sz mk se pv pd op mw) hD hS hA [0, 1, 2, 3, 4, 5, 6, 7] rfl
          refine wr_calli (va_runV (As := [.int (b2i false), .int (b2i false), .int (b2i true)]) (rest := []) ⟨hx, hb, hml, hown, hts⟩ (c_X1_throwing l D k0 kv ko ks km kt kp kb cZ cD cI th mv io sz mk se pv pd op mw hsz s.heap.size false false true ) (cwV 3 hts gX1_move_X1_throwing rfl rfl rfl (by decide +kernel) ⟨Nat.le_of_ble_eq_true rfl, Nat.le_of_ble_eq_true rfl⟩) ⟨fun a U g mk q => ⟨q.1, q.2.1, q.2.2.1, va_K.moved (u := U) (U := U.calling g mk a) (Vm.Alike.refl U.vm) q.2.2.2.1, q.2.2.2.2⟩, va_recv hK hP (ci := 2) (q0 := 0) rfl rfl, fun U hU hW => ⟨rfl, by rw [hU], by rw [hU]; exact hP, va_K.moved hW.alike hK, hD.weaken (fun _ _ _ _ => trivial)⟩⟩ rfl rfl hl.1 rfl (lv_room (Nat.le_of_ble_eq_true rfl)) dX1_move_151 ⟨Nat.le_of_ble_eq_true rfl, Nat.le_of_ble_eq_true rfl⟩) hS hFc (fun r_12 H locs hr_12 hP _ _ hS => ?_)
          subst hr_12
          refine kt_i (y := b2i true) rfl ?_
          have hD : va_D A (WM k0 kv ko ks km kt kp kb cZ cD cI (thr false false true) mv io sz mk se pv pd op mw) := va_D_same (ws := WM k0 kv ko ks km kt kp kb cZ cD cI th mv io sz mk se pv pd op mw) rfl hD
          have hP : va_P D vwCl (WM k0 kv ko ks km kt kp kb cZ cD cI (thr false false true) mv io sz mk se pv pd op mw) H := hP
          refine kb_eq (tgt := 159) hx hb dX1_move_154 (by decide) (fun h => absurd h (by decide)) (fun _ => ?_)
          refine lv_iconst (v := nI 0) hx hb dX1_move_157 (by decide) ?_
          refine W.widen (k := 0) (n := 0) (Nat.le_of_ble_eq_true rfl) (Nat.le_of_ble_eq_true rfl) ?_
          exact W.iret (v := nI 0) hx hb hr (fun t9 ht9 hW9 => ⟨⟨_, rfl, by rw [tMs_of (A := false) (B := false) (C := true) (by simp [bnt c_1]) (decide_eq_false c_9) (by rw [show (lo io sz 2 || !se 1) = true from by simp [c_6]]; exact decide_eq_true c_10)]; rfl, by rw [ht9, tMs_of (A := false) (B := false) (C := true) (by simp [bnt c_1]) (decide_eq_false c_9) (by rw [show (lo io sz 2 || !se 1) = true from by simp [c_6]]; exact decide_eq_true c_10)]; exact hP⟩, hS.F ht9⟩) hS.2.2 dX1_move_158
      · refine lv_iconst (v := nI 1) hx hb dX1_move_98 (by decide) ?_
        refine lv_goto (tgt := 103) hx hb dX1_move_99 (by decide) ?_
        refine lv_istore (lv' := [(7, .int (nI 1)), (6, .int (nI (wy true (lw mv sz 2) (mk 1)))), (5, .int (nI (wy (lo io sz 0 || !se 0) (lw mv sz 0) (mk 0)))), (4, .int (nI (wy (lo io sz 3 || !se 5) (lw mv sz 3) (mk 5)))), (3, .int (nI (wy (lo io sz 0 || lo io sz 2) (lw mv sz 0) (lw mv sz 2)))), (2, .int (nI 0)), (0, .ref k0), (1, .int (b2i false))]) hx hb dX1_move_103 hl (by decide) rfl (fun ls hl => ?_)
        refine lv_iload_n hx hb dX1_move_105 rfl (lv_at hl 7 rfl) ?_
        refine kb_eq (tgt := 132) hx hb dX1_move_106 (by decide) (fun _ => ?_) (fun h => absurd h (by decide))
        refine lv_iload hx hb dX1_move_132 (lv_at hl 1 rfl) ?_
        refine lv_iconst (v := nI 4) hx hb dX1_move_134 (by decide) ?_
        refine kn_icmp_ge (tgt := 142) hx hb (Nat.lt_trans (wy_lt _ _ _) (by decide)) (by decide) dX1_move_135 (by decide) (fun c_13 => ?_) (fun c_13 => ?_)
        · refine lv_iconst (v := nI 0) hx hb dX1_move_142 (by decide) ?_
          refine lv_istore (lv' := [(8, .int (nI 0)), (7, .int (nI 1)), (6, .int (nI (wy true (lw mv sz 2) (mk 1)))), (5, .int (nI (wy (lo io sz 0 || !se 0) (lw mv sz 0) (mk 0)))), (4, .int (nI (wy (lo io sz 3 || !se 5) (lw mv sz 3) (mk 5)))), (3, .int (nI (wy (lo io sz 0 || lo io sz 2) (lw mv sz 0) (lw mv sz 2)))), (2, .int (nI 0)), (0, .ref k0), (1, .int (b2i false))]) hx hb dX1_move_143 hl (by decide) rfl (fun ls hl => ?_)
          refine lv_aload_n hx hb dX1_move_145 rfl (lv_at hl 7 rfl) ?_
          refine lv_iload_n hx hb dX1_move_146 rfl (lv_at hl 6 rfl) ?_
          refine lv_iload hx hb dX1_move_147 (lv_at hl 1 rfl) ?_
          refine lv_iload hx hb dX1_move_149 (lv_at hl 0 rfl) ?_
          have hFc := va_free (wc := WM k0 kv ko ks km kt kp kb cZ cD cI th mv io sz mk se pv pd op mw) hD hS hA [0, 1, 2, 3, 4, 5, 6, 7] rfl
          refine wr_calli (va_runV (As := [.int (b2i false), .int (b2i true), .int (b2i false)]) (rest := []) ⟨hx, hb, hml, hown, hts⟩ (c_X1_throwing l D k0 kv ko ks km kt kp kb cZ cD cI th mv io sz mk se pv pd op mw hsz s.heap.size false true false ) (cwV 3 hts gX1_move_X1_throwing rfl rfl rfl (by decide +kernel) ⟨Nat.le_of_ble_eq_true rfl, Nat.le_of_ble_eq_true rfl⟩) ⟨fun a U g mk q => ⟨q.1, q.2.1, q.2.2.1, va_K.moved (u := U) (U := U.calling g mk a) (Vm.Alike.refl U.vm) q.2.2.2.1, q.2.2.2.2⟩, va_recv hK hP (ci := 2) (q0 := 0) rfl rfl, fun U hU hW => ⟨rfl, by rw [hU], by rw [hU]; exact hP, va_K.moved hW.alike hK, hD.weaken (fun _ _ _ _ => trivial)⟩⟩ rfl rfl hl.1 rfl (lv_room (Nat.le_of_ble_eq_true rfl)) dX1_move_151 ⟨Nat.le_of_ble_eq_true rfl, Nat.le_of_ble_eq_true rfl⟩) hS hFc (fun r_14 H locs hr_14 hP _ _ hS => ?_)
          subst hr_14
          refine kt_i (y := b2i true) rfl ?_
          have hD : va_D A (WM k0 kv ko ks km kt kp kb cZ cD cI (thr false true false) mv io sz mk se pv pd op mw) := va_D_same (ws := WM k0 kv ko ks km kt kp kb cZ cD cI th mv io sz mk se pv pd op mw) rfl hD
          have hP : va_P D vwCl (WM k0 kv ko ks km kt kp kb cZ cD cI (thr false true false) mv io sz mk se pv pd op mw) H := hP
          refine kb_eq (tgt := 159) hx hb dX1_move_154 (by decide) (fun h => absurd h (by decide)) (fun _ => ?_)
          refine lv_iconst (v := nI 0) hx hb dX1_move_157 (by decide) ?_
          refine W.widen (k := 0) (n := 0) (Nat.le_of_ble_eq_true rfl) (Nat.le_of_ble_eq_true rfl) ?_
          exact W.iret (v := nI 0) hx hb hr (fun t9 ht9 hW9 => ⟨⟨_, rfl, by rw [tMs_of (A := false) (B := true) (C := false) (by simp [bnt c_1]) (decide_eq_true c_9) (by rw [show (lo io sz 2 || !se 1) = true from by simp [c_6]]; exact decide_eq_false (Nat.not_lt.mpr c_13))]; rfl, by rw [ht9, tMs_of (A := false) (B := true) (C := false) (by simp [bnt c_1]) (decide_eq_true c_9) (by rw [show (lo io sz 2 || !se 1) = true from by simp [c_6]]; exact decide_eq_false (Nat.not_lt.mpr c_13))]; exact hP⟩, hS.F ht9⟩) hS.2.2 dX1_move_158
        · refine lv_iconst (v := nI 1) hx hb dX1_move_138 (by decide) ?_
          refine lv_goto (tgt := 143) hx hb dX1_move_139 (by decide) ?_
          refine lv_istore (lv' := [(8, .int (nI 1)), (7, .int (nI 1)), (6, .int (nI (wy true (lw mv sz 2) (mk 1)))), (5, .int (nI (wy (lo io sz 0 || !se 0) (lw mv sz 0) (mk 0)))), (4, .int (nI (wy (lo io sz 3 || !se 5) (lw mv sz 3) (mk 5)))), (3, .int (nI (wy (lo io sz 0 || lo io sz 2) (lw mv sz 0) (lw mv sz 2)))), (2, .int (nI 0)), (0, .ref k0), (1, .int (b2i false))]) hx hb dX1_move_143 hl (by decide) rfl (fun ls hl => ?_)
          refine lv_aload_n hx hb dX1_move_145 rfl (lv_at hl 7 rfl) ?_
          refine lv_iload_n hx hb dX1_move_146 rfl (lv_at hl 6 rfl) ?_
          refine lv_iload hx hb dX1_move_147 (lv_at hl 1 rfl) ?_
          refine lv_iload hx hb dX1_move_149 (lv_at hl 0 rfl) ?_
          have hFc := va_free (wc := WM k0 kv ko ks km kt kp kb cZ cD cI th mv io sz mk se pv pd op mw) hD hS hA [0, 1, 2, 3, 4, 5, 6, 7] rfl
          refine wr_calli (va_runV (As := [.int (b2i false), .int (b2i true), .int (b2i true)]) (rest := []) ⟨hx, hb, hml, hown, hts⟩ (c_X1_throwing l D k0 kv ko ks km kt kp kb cZ cD cI th mv io sz mk se pv pd op mw hsz s.heap.size false true true ) (cwV 3 hts gX1_move_X1_throwing rfl rfl rfl (by decide +kernel) ⟨Nat.le_of_ble_eq_true rfl, Nat.le_of_ble_eq_true rfl⟩) ⟨fun a U g mk q => ⟨q.1, q.2.1, q.2.2.1, va_K.moved (u := U) (U := U.calling g mk a) (Vm.Alike.refl U.vm) q.2.2.2.1, q.2.2.2.2⟩, va_recv hK hP (ci := 2) (q0 := 0) rfl rfl, fun U hU hW => ⟨rfl, by rw [hU], by rw [hU]; exact hP, va_K.moved hW.alike hK, hD.weaken (fun _ _ _ _ => trivial)⟩⟩ rfl rfl hl.1 rfl (lv_room (Nat.le_of_ble_eq_true rfl)) dX1_move_151 ⟨Nat.le_of_ble_eq_true rfl, Nat.le_of_ble_eq_true rfl⟩) hS hFc (fun r_15 H locs hr_15 hP _ _ hS => ?_)
          subst hr_15
          refine kt_i (y := b2i true) rfl ?_
          have hD : va_D A (WM k0 kv ko ks km kt kp kb cZ cD cI (thr false true true) mv io sz mk se pv pd op mw) := va_D_same (ws := WM k0 kv ko ks km kt kp kb cZ cD cI th mv io sz mk se pv pd op mw) rfl hD
          have hP : va_P D vwCl (WM k0 kv ko ks km kt kp kb cZ cD cI (thr false true true) mv io sz mk se pv pd op mw) H := hP
          refine kb_eq (tgt := 159) hx hb dX1_move_154 (by decide) (fun h => absurd h (by decide)) (fun _ => ?_)
          refine lv_iconst (v := nI 0) hx hb dX1_move_157 (by decide) ?_
          refine W.widen (k := 0) (n := 0) (Nat.le_of_ble_eq_true rfl) (Nat.le_of_ble_eq_true rfl) ?_
          exact W.iret (v := nI 0) hx hb hr (fun t9 ht9 hW9 => ⟨⟨_, rfl, by rw [tMs_of (A := false) (B := true) (C := true) (by simp [bnt c_1]) (decide_eq_true c_9) (by rw [show (lo io sz 2 || !se 1) = true from by simp [c_6]]; exact decide_eq_true c_13)]; rfl, by rw [ht9, tMs_of (A := false) (B := true) (C := true) (by simp [bnt c_1]) (decide_eq_true c_9) (by rw [show (lo io sz 2 || !se 1) = true from by simp [c_6]]; exact decide_eq_true c_13)]; exact hP⟩, hS.F ht9⟩) hS.2.2 dX1_move_158
    · refine lv_aload_n hx hb dX1_move_45 rfl (lv_at hl 4 rfl) ?_
      refine va_get (D := D) (ci := 2) (v := .ref kt) (C := RX1) (T := TX1) (N := 10) hx hb hts hinRX1 hown hK hP 0 rfl rfl 5 (by decide) hf_24 (fun _ h9 => h9) rfl dX1_move_46 ?_
      refine lv_iconst (v := nI 1) hx hb dX1_move_49 (by decide) ?_
      refine kn_zald hx hb hK hP 5 0 rfl rfl (by omega) (by decide) dX1_move_50 ?_
      refine kb_ne (tgt := 58) hx hb dX1_move_51 (by decide) (fun c_16 => ?_) (fun c_16 => ?_)
      · refine lv_iconst (v := nI 0) hx hb dX1_move_58 (by decide) ?_
        refine lv_aload_n hx hb dX1_move_59 rfl (lv_at hl 4 rfl) ?_
        refine lv_iconst (v := nI 2) hx hb dX1_move_60 (by decide) ?_
        refine rd_calld (va_runV (As := [.int (nI 2)]) (rest := [.int (nI 0)]) ⟨hx, hb, hml, hown, hts⟩ (c_X1_latestValue l D k0 kv ko ks km kt kp kb cZ cD cI th mv io sz mk se pv pd op mw hsz 2 (by omega)) (cwV 1 hts gX1_move_X1_latestValue rfl rfl rfl (by decide +kernel) ⟨Nat.le_of_ble_eq_true rfl, Nat.le_of_ble_eq_true rfl⟩) ⟨fun a U g mk q => ⟨q.1, q.2.1, va_K.moved (u := U) (U := U.calling g mk a) (Vm.Alike.refl U.vm) q.2.2⟩, va_recv hK hP (ci := 2) (q0 := 0) rfl rfl, fun U hU hW => ⟨rfl, by rw [hU]; exact hP, va_K.moved hW.alike hK⟩⟩ rfl rfl hl.1 rfl (lv_room (Nat.le_of_ble_eq_true rfl)) dX1_move_61 ⟨Nat.le_of_ble_eq_true rfl, Nat.le_of_ble_eq_true rfl⟩) (fun r_17 hr_17 => ?_)
        subst hr_17
        refine lv_aload_n hx hb dX1_move_64 rfl (lv_at hl 4 rfl) ?_
        refine va_get (D := D) (ci := 2) (v := .ref km) (C := RX1) (T := TX1) (N := 10) hx hb hts hinRX1 hown hK hP 0 rfl rfl 4 (by decide) hf_21 (fun _ h9 => h9) rfl dX1_move_65 ?_
        refine lv_iconst (v := nI 1) hx hb dX1_move_68 (by decide) ?_
        refine kn_dald hx hb hK hP 4 1 rfl rfl (by omega) (by decide) dX1_move_69 ?_
        refine rd_calli (va_runS (As := [.int (b2i false), .double (lw mv sz 2), .double (mk 1)]) (rest := []) ⟨hx, hb, hml, hown, hts⟩ (c_X1_way l false (lw mv sz 2) (mk 1) ) (va_cwS 3 hts gX1_move_X1_way rfl rfl rfl (by decide +kernel) ⟨Nat.le_of_ble_eq_true rfl, Nat.le_of_ble_eq_true rfl⟩) ⟨fun a U g mk q => q, fun U hU hW => ⟨rfl, trivial⟩⟩ rfl rfl hl.1 rfl (lv_room (Nat.le_of_ble_eq_true rfl)) dX1_move_70 ⟨Nat.le_of_ble_eq_true rfl, Nat.le_of_ble_eq_true rfl⟩) (fun r_18 hr_18 => ?_)
        subst hr_18
        refine lv_istore (lv' := [(6, .int (nI (wy false (lw mv sz 2) (mk 1)))), (5, .int (nI (wy (lo io sz 0 || !se 0) (lw mv sz 0) (mk 0)))), (4, .int (nI (wy (lo io sz 3 || !se 5) (lw mv sz 3) (mk 5)))), (3, .int (nI (wy (lo io sz 0 || lo io sz 2) (lw mv sz 0) (lw mv sz 2)))), (2, .int (nI 0)), (0, .ref k0), (1, .int (b2i false))]) hx hb dX1_move_73 hl (by decide) rfl (fun ls hl => ?_)
        refine lv_iload_n hx hb dX1_move_75 rfl (lv_at hl 6 rfl) ?_
        refine kb_eq (tgt := 92) hx hb dX1_move_76 (by decide) (fun _ => ?_) (fun h => absurd h (by decide))
        refine lv_iload hx hb dX1_move_92 (lv_at hl 1 rfl) ?_
        refine lv_iconst (v := nI 4) hx hb dX1_move_94 (by decide) ?_
        refine kn_icmp_ne (tgt := 102) hx hb (Nat.lt_trans (wy_lt _ _ _) (by decide)) (by decide) dX1_move_95 (by decide) (fun c_19 => ?_) (fun c_19 => ?_)
        · refine lv_iconst (v := nI 0) hx hb dX1_move_102 (by decide) ?_
          refine lv_istore (lv' := [(7, .int (nI 0)), (6, .int (nI (wy false (lw mv sz 2) (mk 1)))), (5, .int (nI (wy (lo io sz 0 || !se 0) (lw mv sz 0) (mk 0)))), (4, .int (nI (wy (lo io sz 3 || !se 5) (lw mv sz 3) (mk 5)))), (3, .int (nI (wy (lo io sz 0 || lo io sz 2) (lw mv sz 0) (lw mv sz 2)))), (2, .int (nI 0)), (0, .ref k0), (1, .int (b2i false))]) hx hb dX1_move_103 hl (by decide) rfl (fun ls hl => ?_)
          refine lv_iload_n hx hb dX1_move_105 rfl (lv_at hl 7 rfl) ?_
          refine kb_eq (tgt := 132) hx hb dX1_move_106 (by decide) (fun _ => ?_) (fun h => absurd h (by decide))
          refine lv_iload hx hb dX1_move_132 (lv_at hl 1 rfl) ?_
          refine lv_iconst (v := nI 4) hx hb dX1_move_134 (by decide) ?_
          refine kn_icmp_ge (tgt := 142) hx hb (Nat.lt_trans (wy_lt _ _ _) (by decide)) (by decide) dX1_move_135 (by decide) (fun c_20 => ?_) (fun c_20 => ?_)
          · refine lv_iconst (v := nI 0) hx hb dX1_move_142 (by decide) ?_
            refine lv_istore (lv' := [(8, .int (nI 0)), (7, .int (nI 0)), (6, .int (nI (wy false (lw mv sz 2) (mk 1)))), (5, .int (nI (wy (lo io sz 0 || !se 0) (lw mv sz 0) (mk 0)))), (4, .int (nI (wy (lo io sz 3 || !se 5) (lw mv sz 3) (mk 5)))), (3, .int (nI (wy (lo io sz 0 || lo io sz 2) (lw mv sz 0) (lw mv sz 2)))), (2, .int (nI 0)), (0, .ref k0), (1, .int (b2i false))]) hx hb dX1_move_143 hl (by decide) rfl (fun ls hl => ?_)
            refine lv_aload_n hx hb dX1_move_145 rfl (lv_at hl 7 rfl) ?_
            refine lv_iload_n hx hb dX1_move_146 rfl (lv_at hl 6 rfl) ?_
            refine lv_iload hx hb dX1_move_147 (lv_at hl 1 rfl) ?_
            refine lv_iload hx hb dX1_move_149 (lv_at hl 0 rfl) ?_
            have hFc := va_free (wc := WM k0 kv ko ks km kt kp kb cZ cD cI th mv io sz mk se pv pd op mw) hD hS hA [0, 1, 2, 3, 4, 5, 6, 7] rfl
            refine wr_calli (va_runV (As := [.int (b2i false), .int (b2i false), .int (b2i false)]) (rest := []) ⟨hx, hb, hml, hown, hts⟩ (c_X1_throwing l D k0 kv ko ks km kt kp kb cZ cD cI th mv io sz mk se pv pd op mw hsz s.heap.size false false false ) (cwV 3 hts gX1_move_X1_throwing rfl rfl rfl (by decide +kernel) ⟨Nat.le_of_ble_eq_true rfl, Nat.le_of_ble_eq_true rfl⟩) ⟨fun a U g mk q => ⟨q.1, q.2.1, q.2.2.1, va_K.moved (u := U) (U := U.calling g mk a) (Vm.Alike.refl U.vm) q.2.2.2.1, q.2.2.2.2⟩, va_recv hK hP (ci := 2) (q0 := 0) rfl rfl, fun U hU hW => ⟨rfl, by rw [hU], by rw [hU]; exact hP, va_K.moved hW.alike hK, hD.weaken (fun _ _ _ _ => trivial)⟩⟩ rfl rfl hl.1 rfl (lv_room (Nat.le_of_ble_eq_true rfl)) dX1_move_151 ⟨Nat.le_of_ble_eq_true rfl, Nat.le_of_ble_eq_true rfl⟩) hS hFc (fun r_21 H locs hr_21 hP _ _ hS => ?_)
            subst hr_21
            refine kt_i (y := b2i false) rfl ?_
            have hD : va_D A (WM k0 kv ko ks km kt kp kb cZ cD cI (thr false false false) mv io sz mk se pv pd op mw) := va_D_same (ws := WM k0 kv ko ks km kt kp kb cZ cD cI th mv io sz mk se pv pd op mw) rfl hD
            have hP : va_P D vwCl (WM k0 kv ko ks km kt kp kb cZ cD cI (thr false false false) mv io sz mk se pv pd op mw) H := hP
            refine kb_eq (tgt := 159) hx hb dX1_move_154 (by decide) (fun _ => ?_) (fun h => absurd h (by decide))
            refine lv_aload_n hx hb dX1_move_159 rfl (lv_at hl 7 rfl) ?_
            refine lv_iload_n hx hb dX1_move_160 rfl (lv_at hl 8 rfl) ?_
            refine va_put (D := D) (ci := 2) (v := .int (b2i false)) (ty := .boolean) (C := RX1) (T := TX1) (N := 10) hx hb hts hinRX1 tyX1 tyX1_ok nmX1 hown hK hP hD hS 0 rfl rfl 8 (by decide) hf_111 (fun _ h9 => h9) rfl (by decide +kernel) (b2i_nar _) (b2i_fit _) (Nat.le_of_ble_eq_true rfl) dX1_move_161 (fun H locs hP hD hS => ?_)
            have hP : va_P D vwCl (WM k0 kv ko ks km kt kp kb cZ cD cI (thr false false false) mv io sz mk se pv pd false mw) H := hP
            have hD : va_D A (WM k0 kv ko ks km kt kp kb cZ cD cI (thr false false false) mv io sz mk se pv pd false mw) := hD
            refine lv_aload_n hx hb dX1_move_164 rfl (lv_at hl 7 rfl) ?_
            refine lv_dup hx hb dX1_move_165 rfl ?_
            refine va_get (D := D) (ci := 2) (v := .int mw) (C := RX1) (T := TX1) (N := 10) hx hb hts hinRX1 hown hK hP 0 rfl rfl 9 (by decide) hf_115 (fun _ h9 => h9) rfl dX1_move_166 ?_
            refine lv_iconst (v := nI 1) hx hb dX1_move_169 (by decide) ?_
            refine lv_iadd hx hb dX1_move_170 ?_
            refine va_put (D := D) (ci := 2) (v := .int (mw + (nI 1))) (ty := .int) (C := RX1) (T := TX1) (N := 10) hx hb hts hinRX1 tyX1 tyX1_ok nmX1 hown hK hP hD hS 0 rfl rfl 9 (by decide) hf_115 (fun _ h9 => h9) rfl (by decide +kernel) rfl rfl (Nat.le_of_ble_eq_true rfl) dX1_move_171 (fun H locs hP hD hS => ?_)
            have hP : va_P D vwCl (WM k0 kv ko ks km kt kp kb cZ cD cI (thr false false false) mv io sz mk se pv pd false (mw + (nI 1))) H := hP
            have hD : va_D A (WM k0 kv ko ks km kt kp kb cZ cD cI (thr false false false) mv io sz mk se pv pd false (mw + (nI 1))) := hD
            refine lv_aload_n hx hb dX1_move_174 rfl (lv_at hl 7 rfl) ?_
            refine va_get (D := D) (ci := 2) (v := .int (mw + (nI 1))) (C := RX1) (T := TX1) (N := 10) hx hb hts hinRX1 hown hK hP 0 rfl rfl 9 (by decide) hf_115 (fun _ h9 => h9) rfl dX1_move_175 ?_
            refine W.widen (k := 0) (n := 0) (Nat.le_of_ble_eq_true rfl) (Nat.le_of_ble_eq_true rfl) ?_
            exact W.iret (v := mw + (nI 1)) hx hb hr (fun t9 ht9 hW9 => ⟨⟨_, rfl, by rw [tMs_of (A := false) (B := false) (C := false) (by simp [bnt c_1]) (decide_eq_false c_19) (by rw [show (lo io sz 2 || !se 1) = false from by simp [c_6, c_16]]; exact decide_eq_false (Nat.not_lt.mpr c_20))]; rfl, by rw [ht9, tMs_of (A := false) (B := false) (C := false) (by simp [bnt c_1]) (decide_eq_false c_19) (by rw [show (lo io sz 2 || !se 1) = false from by simp [c_6, c_16]]; exact decide_eq_false (Nat.not_lt.mpr c_20))]; exact hP⟩, hS.F ht9⟩) hS.2.2 dX1_move_178
          · refine lv_iconst (v := nI 1) hx hb dX1_move_138 (by decide) ?_
            refine lv_goto (tgt := 143) hx hb dX1_move_139 (by decide) ?_
            refine lv_istore (lv' := [(8, .int (nI 1)), (7, .int (nI 0)), (6, .int (nI (wy false (lw mv sz 2) (mk 1)))), (5, .int (nI (wy (lo io sz 0 || !se 0) (lw mv sz 0) (mk 0)))), (4, .int (nI (wy (lo io sz 3 || !se 5) (lw mv sz 3) (mk 5)))), (3, .int (nI (wy (lo io sz 0 || lo io sz 2) (lw mv sz 0) (lw mv sz 2)))), (2, .int (nI 0)), (0, .ref k0), (1, .int (b2i false))]) hx hb dX1_move_143 hl (by decide) rfl (fun ls hl => ?_)
            refine lv_aload_n hx hb dX1_move_145 rfl (lv_at hl 7 rfl) ?_
            refine lv_iload_n hx hb dX1_move_146 rfl (lv_at hl 6 rfl) ?_
            refine lv_iload hx hb dX1_move_147 (lv_at hl 1 rfl) ?_
            refine lv_iload hx hb dX1_move_149 (lv_at hl 0 rfl) ?_
            have hFc := va_free (wc := WM k0 kv ko ks km kt kp kb cZ cD cI th mv io sz mk se pv pd op mw) hD hS hA [0, 1, 2, 3, 4, 5, 6, 7] rfl
            refine wr_calli (va_runV (As := [.int (b2i false), .int (b2i false), .int (b2i true)]) (rest := []) ⟨hx, hb, hml, hown, hts⟩ (c_X1_throwing l D k0 kv ko ks km kt kp kb cZ cD cI th mv io sz mk se pv pd op mw hsz s.heap.size false false true ) (cwV 3 hts gX1_move_X1_throwing rfl rfl rfl (by decide +kernel) ⟨Nat.le_of_ble_eq_true rfl, Nat.le_of_ble_eq_true rfl⟩) ⟨fun a U g mk q => ⟨q.1, q.2.1, q.2.2.1, va_K.moved (u := U) (U := U.calling g mk a) (Vm.Alike.refl U.vm) q.2.2.2.1, q.2.2.2.2⟩, va_recv hK hP (ci := 2) (q0 := 0) rfl rfl, fun U hU hW => ⟨rfl, by rw [hU], by rw [hU]; exact hP, va_K.moved hW.alike hK, hD.weaken (fun _ _ _ _ => trivial)⟩⟩ rfl rfl hl.1 rfl (lv_room (Nat.le_of_ble_eq_true rfl)) dX1_move_151 ⟨Nat.le_of_ble_eq_true rfl, Nat.le_of_ble_eq_true rfl⟩) hS hFc (fun r_22 H locs hr_22 hP _ _ hS => ?_)
            subst hr_22
            refine kt_i (y := b2i true) rfl ?_
            have hD : va_D A (WM k0 kv ko ks km kt kp kb cZ cD cI (thr false false true) mv io sz mk se pv pd op mw) := va_D_same (ws := WM k0 kv ko ks km kt kp kb cZ cD cI th mv io sz mk se pv pd op mw) rfl hD
            have hP : va_P D vwCl (WM k0 kv ko ks km kt kp kb cZ cD cI (thr false false true) mv io sz mk se pv pd op mw) H := hP
            refine kb_eq (tgt := 159) hx hb dX1_move_154 (by decide) (fun h => absurd h (by decide)) (fun _ => ?_)
            refine lv_iconst (v := nI 0) hx hb dX1_move_157 (by decide) ?_
            refine W.widen (k := 0) (n := 0) (Nat.le_of_ble_eq_true rfl) (Nat.le_of_ble_eq_true rfl) ?_
            exact W.iret (v := nI 0) hx hb hr (fun t9 ht9 hW9 => ⟨⟨_, rfl, by rw [tMs_of (A := false) (B := false) (C := true) (by simp [bnt c_1]) (decide_eq_false c_19) (by rw [show (lo io sz 2 || !se 1) = false from by simp [c_6, c_16]]; exact decide_eq_true c_20)]; rfl, by rw [ht9, tMs_of (A := false) (B := false) (C := true) (by simp [bnt c_1]) (decide_eq_false c_19) (by rw [show (lo io sz 2 || !se 1) = false from by simp [c_6, c_16]]; exact decide_eq_true c_20)]; exact hP⟩, hS.F ht9⟩) hS.2.2 dX1_move_158
        · refine lv_iconst (v := nI 1) hx hb dX1_move_98 (by decide) ?_
          refine lv_goto (tgt := 103) hx hb dX1_move_99 (by decide) ?_
          refine lv_istore (lv' := [(7, .int (nI 1)), (6, .int (nI (wy false (lw mv sz 2) (mk 1)))), (5, .int (nI (wy (lo io sz 0 || !se 0) (lw mv sz 0) (mk 0)))), (4, .int (nI (wy (lo io sz 3 || !se 5) (lw mv sz 3) (mk 5)))), (3, .int (nI (wy (lo io sz 0 || lo io sz 2) (lw mv sz 0) (lw mv sz 2)))), (2, .int (nI 0)), (0, .ref k0), (1, .int (b2i false))]) hx hb dX1_move_103 hl (by decide) rfl (fun ls hl => ?_)
          refine lv_iload_n hx hb dX1_move_105 rfl (lv_at hl 7 rfl) ?_
          refine kb_eq (tgt := 132) hx hb dX1_move_106 (by decide) (fun _ => ?_) (fun h => absurd h (by decide))
          refine lv_iload hx hb dX1_move_132 (lv_at hl 1 rfl) ?_
          refine lv_iconst (v := nI 4) hx hb dX1_move_134 (by decide) ?_
          refine kn_icmp_ge (tgt := 142) hx hb (Nat.lt_trans (wy_lt _ _ _) (by decide)) (by decide) dX1_move_135 (by decide) (fun c_23 => ?_) (fun c_23 => ?_)
          · refine lv_iconst (v := nI 0) hx hb dX1_move_142 (by decide) ?_
            refine lv_istore (lv' := [(8, .int (nI 0)), (7, .int (nI 1)), (6, .int (nI (wy false (lw mv sz 2) (mk 1)))), (5, .int (nI (wy (lo io sz 0 || !se 0) (lw mv sz 0) (mk 0)))), (4, .int (nI (wy (lo io sz 3 || !se 5) (lw mv sz 3) (mk 5)))), (3, .int (nI (wy (lo io sz 0 || lo io sz 2) (lw mv sz 0) (lw mv sz 2)))), (2, .int (nI 0)), (0, .ref k0), (1, .int (b2i false))]) hx hb dX1_move_143 hl (by decide) rfl (fun ls hl => ?_)
            refine lv_aload_n hx hb dX1_move_145 rfl (lv_at hl 7 rfl) ?_
            refine lv_iload_n hx hb dX1_move_146 rfl (lv_at hl 6 rfl) ?_
            refine lv_iload hx hb dX1_move_147 (lv_at hl 1 rfl) ?_
            refine lv_iload hx hb dX1_move_149 (lv_at hl 0 rfl) ?_
            have hFc := va_free (wc := WM k0 kv ko ks km kt kp kb cZ cD cI th mv io sz mk se pv pd op mw) hD hS hA [0, 1, 2, 3, 4, 5, 6, 7] rfl
            refine wr_calli (va_runV (As := [.int (b2i false), .int (b2i true), .int (b2i false)]) (rest := []) ⟨hx, hb, hml, hown, hts⟩ (c_X1_throwing l D k0 kv ko ks km kt kp kb cZ cD cI th mv io sz mk se pv pd op mw hsz s.heap.size false true false ) (cwV 3 hts gX1_move_X1_throwing rfl rfl rfl (by decide +kernel) ⟨Nat.le_of_ble_eq_true rfl, Nat.le_of_ble_eq_true rfl⟩) ⟨fun a U g mk q => ⟨q.1, q.2.1, q.2.2.1, va_K.moved (u := U) (U := U.calling g mk a) (Vm.Alike.refl U.vm) q.2.2.2.1, q.2.2.2.2⟩, va_recv hK hP (ci := 2) (q0 := 0) rfl rfl, fun U hU hW => ⟨rfl, by rw [hU], by rw [hU]; exact hP, va_K.moved hW.alike hK, hD.weaken (fun _ _ _ _ => trivial)⟩⟩ rfl rfl hl.1 rfl (lv_room (Nat.le_of_ble_eq_true rfl)) dX1_move_151 ⟨Nat.le_of_ble_eq_true rfl, Nat.le_of_ble_eq_true rfl⟩) hS hFc (fun r_24 H locs hr_24 hP _ _ hS => ?_)
            subst hr_24
            refine kt_i (y := b2i true) rfl ?_
            have hD : va_D A (WM k0 kv ko ks km kt kp kb cZ cD cI (thr false true false) mv io sz mk se pv pd op mw) := va_D_same (ws := WM k0 kv ko ks km kt kp kb cZ cD cI th mv io sz mk se pv pd op mw) rfl hD
            have hP : va_P D vwCl (WM k0 kv ko ks km kt kp kb cZ cD cI (thr false true false) mv io sz mk se pv pd op mw) H := hP
            refine kb_eq (tgt := 159) hx hb dX1_move_154 (by decide) (fun h => absurd h (by decide)) (fun _ => ?_)
            refine lv_iconst (v := nI 0) hx hb dX1_move_157 (by decide) ?_
            refine W.widen (k := 0) (n := 0) (Nat.le_of_ble_eq_true rfl) (Nat.le_of_ble_eq_true rfl) ?_
            exact W.iret (v := nI 0) hx hb hr (fun t9 ht9 hW9 => ⟨⟨_, rfl, by rw [tMs_of (A := false) (B := true) (C := false) (by simp [bnt c_1]) (decide_eq_true c_19) (by rw [show (lo io sz 2 || !se 1) = false from by simp [c_6, c_16]]; exact decide_eq_false (Nat.not_lt.mpr c_23))]; rfl, by rw [ht9, tMs_of (A := false) (B := true) (C := false) (by simp [bnt c_1]) (decide_eq_true c_19) (by rw [show (lo io sz 2 || !se 1) = false from by simp [c_6, c_16]]; exact decide_eq_false (Nat.not_lt.mpr c_23))]; exact hP⟩, hS.F ht9⟩) hS.2.2 dX1_move_158
          · refine lv_iconst (v := nI 1) hx hb dX1_move_138 (by decide) ?_
            refine lv_goto (tgt := 143) hx hb dX1_move_139 (by decide) ?_
            refine lv_istore (lv' := [(8, .int (nI 1)), (7, .int (nI 1)), (6, .int (nI (wy false (lw mv sz 2) (mk 1)))), (5, .int (nI (wy (lo io sz 0 || !se 0) (lw mv sz 0) (mk 0)))), (4, .int (nI (wy (lo io sz 3 || !se 5) (lw mv sz 3) (mk 5)))), (3, .int (nI (wy (lo io sz 0 || lo io sz 2) (lw mv sz 0) (lw mv sz 2)))), (2, .int (nI 0)), (0, .ref k0), (1, .int (b2i false))]) hx hb dX1_move_143 hl (by decide) rfl (fun ls hl => ?_)
            refine lv_aload_n hx hb dX1_move_145 rfl (lv_at hl 7 rfl) ?_
            refine lv_iload_n hx hb dX1_move_146 rfl (lv_at hl 6 rfl) ?_
            refine lv_iload hx hb dX1_move_147 (lv_at hl 1 rfl) ?_
            refine lv_iload hx hb dX1_move_149 (lv_at hl 0 rfl) ?_
            have hFc := va_free (wc := WM k0 kv ko ks km kt kp kb cZ cD cI th mv io sz mk se pv pd op mw) hD hS hA [0, 1, 2, 3, 4, 5, 6, 7] rfl
            refine wr_calli (va_runV (As := [.int (b2i false), .int (b2i true), .int (b2i true)]) (rest := []) ⟨hx, hb, hml, hown, hts⟩ (c_X1_throwing l D k0 kv ko ks km kt kp kb cZ cD cI th mv io sz mk se pv pd op mw hsz s.heap.size false true true ) (cwV 3 hts gX1_move_X1_throwing rfl rfl rfl (by decide +kernel) ⟨Nat.le_of_ble_eq_true rfl, Nat.le_of_ble_eq_true rfl⟩) ⟨fun a U g mk q => ⟨q.1, q.2.1, q.2.2.1, va_K.moved (u := U) (U := U.calling g mk a) (Vm.Alike.refl U.vm) q.2.2.2.1, q.2.2.2.2⟩, va_recv hK hP (ci := 2) (q0 := 0) rfl rfl, fun U hU hW => ⟨rfl, by rw [hU], by rw [hU]; exact hP, va_K.moved hW.alike hK, hD.weaken (fun _ _ _ _ => trivial)⟩⟩ rfl rfl hl.1 rfl (lv_room (Nat.le_of_ble_eq_true rfl)) dX1_move_151 ⟨Nat.le_of_ble_eq_true rfl, Nat.le_of_ble_eq_true rfl⟩) hS hFc (fun r_25 H locs hr_25 hP _ _ hS => ?_)
            subst hr_25
            refine kt_i (y := b2i true) rfl ?_
            have hD : va_D A (WM k0 kv ko ks km kt kp kb cZ cD cI (thr false true true) mv io sz mk se pv pd op mw) := va_D_same (ws := WM k0 kv ko ks km kt kp kb cZ cD cI th mv io sz mk se pv pd op mw) rfl hD
            have hP : va_P D vwCl (WM k0 kv ko ks km kt kp kb cZ cD cI (thr false true true) mv io sz mk se pv pd op mw) H := hP
            refine kb_eq (tgt := 159) hx hb dX1_move_154 (by decide) (fun h => absurd h (by decide)) (fun _ => ?_)
            refine lv_iconst (v := nI 0) hx hb dX1_move_157 (by decide) ?_
            refine W.widen (k := 0) (n := 0) (Nat.le_of_ble_eq_true rfl) (Nat.le_of_ble_eq_true rfl) ?_
            exact W.iret (v := nI 0) hx hb hr (fun t9 ht9 hW9 => ⟨⟨_, rfl, by rw [tMs_of (A := false) (B := true) (C := true) (by simp [bnt c_1]) (decide_eq_true c_19) (by rw [show (lo io sz 2 || !se 1) = false from by simp [c_6, c_16]]; exact decide_eq_true c_23)]; rfl, by rw [ht9, tMs_of (A := false) (B := true) (C := true) (by simp [bnt c_1]) (decide_eq_true c_19) (by rw [show (lo io sz 2 || !se 1) = false from by simp [c_6, c_16]]; exact decide_eq_true c_23)]; exact hP⟩, hS.F ht9⟩) hS.2.2 dX1_move_158
      · refine lv_iconst (v := nI 1) hx hb dX1_move_54 (by decide) ?_
        refine lv_goto (tgt := 59) hx hb dX1_move_55 (by decide) ?_
        refine lv_aload_n hx hb dX1_move_59 rfl (lv_at hl 4 rfl) ?_
        refine lv_iconst (v := nI 2) hx hb dX1_move_60 (by decide) ?_
        refine rd_calld (va_runV (As := [.int (nI 2)]) (rest := [.int (nI 1)]) ⟨hx, hb, hml, hown, hts⟩ (c_X1_latestValue l D k0 kv ko ks km kt kp kb cZ cD cI th mv io sz mk se pv pd op mw hsz 2 (by omega)) (cwV 1 hts gX1_move_X1_latestValue rfl rfl rfl (by decide +kernel) ⟨Nat.le_of_ble_eq_true rfl, Nat.le_of_ble_eq_true rfl⟩) ⟨fun a U g mk q => ⟨q.1, q.2.1, va_K.moved (u := U) (U := U.calling g mk a) (Vm.Alike.refl U.vm) q.2.2⟩, va_recv hK hP (ci := 2) (q0 := 0) rfl rfl, fun U hU hW => ⟨rfl, by rw [hU]; exact hP, va_K.moved hW.alike hK⟩⟩ rfl rfl hl.1 rfl (lv_room (Nat.le_of_ble_eq_true rfl)) dX1_move_61 ⟨Nat.le_of_ble_eq_true rfl, Nat.le_of_ble_eq_true rfl⟩) (fun r_26 hr_26 => ?_)
        subst hr_26
        refine lv_aload_n hx hb dX1_move_64 rfl (lv_at hl 4 rfl) ?_
        refine va_get (D := D) (ci := 2) (v := .ref km) (C := RX1) (T := TX1) (N := 10) hx hb hts hinRX1 hown hK hP 0 rfl rfl 4 (by decide) hf_21 (fun _ h9 => h9) rfl dX1_move_65 ?_
        refine lv_iconst (v := nI 1) hx hb dX1_move_68 (by decide) ?_
        refine kn_dald hx hb hK hP 4 1 rfl rfl (by omega) (by decide) dX1_move_69 ?_
        refine rd_calli (va_runS (As := [.int (b2i true), .double (lw mv sz 2), .double (mk 1)]) (rest := []) ⟨hx, hb, hml, hown, hts⟩ (c_X1_way l true (lw mv sz 2) (mk 1) ) (va_cwS 3 hts gX1_move_X1_way rfl rfl rfl (by decide +kernel) ⟨Nat.le_of_ble_eq_true rfl, Nat.le_of_ble_eq_true rfl⟩) ⟨fun a U g mk q => q, fun U hU hW => ⟨rfl, trivial⟩⟩ rfl rfl hl.1 rfl (lv_room (Nat.le_of_ble_eq_true rfl)) dX1_move_70 ⟨Nat.le_of_ble_eq_true rfl, Nat.le_of_ble_eq_true rfl⟩) (fun r_27 hr_27 => ?_)
        subst hr_27
        refine lv_istore (lv' := [(6, .int (nI (wy true (lw mv sz 2) (mk 1)))), (5, .int (nI (wy (lo io sz 0 || !se 0) (lw mv sz 0) (mk 0)))), (4, .int (nI (wy (lo io sz 3 || !se 5) (lw mv sz 3) (mk 5)))), (3, .int (nI (wy (lo io sz 0 || lo io sz 2) (lw mv sz 0) (lw mv sz 2)))), (2, .int (nI 0)), (0, .ref k0), (1, .int (b2i false))]) hx hb dX1_move_73 hl (by decide) rfl (fun ls hl => ?_)
        refine lv_iload_n hx hb dX1_move_75 rfl (lv_at hl 6 rfl) ?_
        refine kb_eq (tgt := 92) hx hb dX1_move_76 (by decide) (fun _ => ?_) (fun h => absurd h (by decide))
        refine lv_iload hx hb dX1_move_92 (lv_at hl 1 rfl) ?_
        refine lv_iconst (v := nI 4) hx hb dX1_move_94 (by decide) ?_
        refine kn_icmp_ne (tgt := 102) hx hb (Nat.lt_trans (wy_lt _ _ _) (by decide)) (by decide) dX1_move_95 (by decide) (fun c_28 => ?_) (fun c_28 => ?_)
        · refine lv_iconst (v := nI 0) hx hb dX1_move_102 (by decide) ?_
          refine lv_istore (lv' := [(7, .int (nI 0)), (6, .int (nI (wy true (lw mv sz 2) (mk 1)))), (5, .int (nI (wy (lo io sz 0 || !se 0) (lw mv sz 0) (mk 0)))), (4, .int (nI (wy (lo io sz 3 || !se 5) (lw mv sz 3) (mk 5)))), (3, .int (nI (wy (lo io sz 0 || lo io sz 2) (lw mv sz 0) (lw mv sz 2)))), (2, .int (nI 0)), (0, .ref k0), (1, .int (b2i false))]) hx hb dX1_move_103 hl (by decide) rfl (fun ls hl => ?_)
          refine lv_iload_n hx hb dX1_move_105 rfl (lv_at hl 7 rfl) ?_
          refine kb_eq (tgt := 132) hx hb dX1_move_106 (by decide) (fun _ => ?_) (fun h => absurd h (by decide))
          refine lv_iload hx hb dX1_move_132 (lv_at hl 1 rfl) ?_
          refine lv_iconst (v := nI 4) hx hb dX1_move_134 (by decide) ?_
          refine kn_icmp_ge (tgt := 142) hx hb (Nat.lt_trans (wy_lt _ _ _) (by decide)) (by decide) dX1_move_135 (by decide) (fun c_29 => ?_) (fun c_29 => ?_)
          · refine lv_iconst (v := nI 0) hx hb dX1_move_142 (by decide) ?_
            refine lv_istore (lv' := [(8, .int (nI 0)), (7, .int (nI 0)), (6, .int (nI (wy true (lw mv sz 2) (mk 1)))), (5, .int (nI (wy (lo io sz 0 || !se 0) (lw mv sz 0) (mk 0)))), (4, .int (nI (wy (lo io sz 3 || !se 5) (lw mv sz 3) (mk 5)))), (3, .int (nI (wy (lo io sz 0 || lo io sz 2) (lw mv sz 0) (lw mv sz 2)))), (2, .int (nI 0)), (0, .ref k0), (1, .int (b2i false))]) hx hb dX1_move_143 hl (by decide) rfl (fun ls hl => ?_)
            refine lv_aload_n hx hb dX1_move_145 rfl (lv_at hl 7 rfl) ?_
            refine lv_iload_n hx hb dX1_move_146 rfl (lv_at hl 6 rfl) ?_
            refine lv_iload hx hb dX1_move_147 (lv_at hl 1 rfl) ?_
            refine lv_iload hx hb dX1_move_149 (lv_at hl 0 rfl) ?_
            have hFc := va_free (wc := WM k0 kv ko ks km kt kp kb cZ cD cI th mv io sz mk se pv pd op mw) hD hS hA [0, 1, 2, 3, 4, 5, 6, 7] rfl
            refine wr_calli (va_runV (As := [.int (b2i false), .int (b2i false), .int (b2i false)]) (rest := []) ⟨hx, hb, hml, hown, hts⟩ (c_X1_throwing l D k0 kv ko ks km kt kp kb cZ cD cI th mv io sz mk se pv pd op mw hsz s.heap.size false false false ) (cwV 3 hts gX1_move_X1_throwing rfl rfl rfl (by decide +kernel) ⟨Nat.le_of_ble_eq_true rfl, Nat.le_of_ble_eq_true rfl⟩) ⟨fun a U g mk q => ⟨q.1, q.2.1, q.2.2.1, va_K.moved (u := U) (U := U.calling g mk a) (Vm.Alike.refl U.vm) q.2.2.2.1, q.2.2.2.2⟩, va_recv hK hP (ci := 2) (q0 := 0) rfl rfl, fun U hU hW => ⟨rfl, by rw [hU], by rw [hU]; exact hP, va_K.moved hW.alike hK, hD.weaken (fun _ _ _ _ => trivial)⟩⟩ rfl rfl hl.1 rfl (lv_room (Nat.le_of_ble_eq_true rfl)) dX1_move_151 ⟨Nat.le_of_ble_eq_true rfl, Nat.le_of_ble_eq_true rfl⟩) hS hFc (fun r_30 H locs hr_30 hP _ _ hS => ?_)
            subst hr_30
            refine kt_i (y := b2i false) rfl ?_
            have hD : va_D A (WM k0 kv ko ks km kt kp kb cZ cD cI (thr false false false) mv io sz mk se pv pd op mw) := va_D_same (ws := WM k0 kv ko ks km kt kp kb cZ cD cI th mv io sz mk se pv pd op mw) rfl hD
            have hP : va_P D vwCl (WM k0 kv ko ks km kt kp kb cZ cD cI (thr false false false) mv io sz mk se pv pd op mw) H := hP
            refine kb_eq (tgt := 159) hx hb dX1_move_154 (by decide) (fun _ => ?_) (fun h => absurd h (by decide))
            refine lv_aload_n hx hb dX1_move_159 rfl (lv_at hl 7 rfl) ?_
            refine lv_iload_n hx hb dX1_move_160 rfl (lv_at hl 8 rfl) ?_
            refine va_put (D := D) (ci := 2) (v := .int (b2i false)) (ty := .boolean) (C := RX1) (T := TX1) (N := 10) hx hb hts hinRX1 tyX1 tyX1_ok nmX1 hown hK hP hD hS 0 rfl rfl 8 (by decide) hf_111 (fun _ h9 => h9) rfl (by decide +kernel) (b2i_nar _) (b2i_fit _) (Nat.le_of_ble_eq_true rfl) dX1_move_161 (fun H locs hP hD hS => ?_)
            have hP : va_P D vwCl (WM k0 kv ko ks km kt kp kb cZ cD cI (thr false false false) mv io sz mk se pv pd false mw) H := hP
            have hD : va_D A (WM k0 kv ko ks km kt kp kb cZ cD cI (thr false false false) mv io sz mk se pv pd false mw) := hD
            refine lv_aload_n hx hb dX1_move_164 rfl (lv_at hl 7 rfl) ?_
            refine lv_dup hx hb dX1_move_165 rfl ?_
            refine va_get (D := D) (ci := 2) (v := .int mw) (C := RX1) (T := TX1) (N := 10) hx hb hts hinRX1 hown hK hP 0 rfl rfl 9 (by decide) hf_115 (fun _ h9 => h9) rfl dX1_move_166 ?_
            refine lv_iconst (v := nI 1) hx hb dX1_move_169 (by decide) ?_
            refine lv_iadd hx hb dX1_move_170 ?_
            refine va_put (D := D) (ci := 2) (v := .int (mw + (nI 1))) (ty := .int) (C := RX1) (T := TX1) (N := 10) hx hb hts hinRX1 tyX1 tyX1_ok nmX1 hown hK hP hD hS 0 rfl rfl 9 (by decide) hf_115 (fun _ h9 => h9) rfl (by decide +kernel) rfl rfl (Nat.le_of_ble_eq_true rfl) dX1_move_171 (fun H locs hP hD hS => ?_)
            have hP : va_P D vwCl (WM k0 kv ko ks km kt kp kb cZ cD cI (thr false false false) mv io sz mk se pv pd false (mw + (nI 1))) H := hP
            have hD : va_D A (WM k0 kv ko ks km kt kp kb cZ cD cI (thr false false false) mv io sz mk se pv pd false (mw + (nI 1))) := hD
            refine lv_aload_n hx hb dX1_move_174 rfl (lv_at hl 7 rfl) ?_
            refine va_get (D := D) (ci := 2) (v := .int (mw + (nI 1))) (C := RX1) (T := TX1) (N := 10) hx hb hts hinRX1 hown hK hP 0 rfl rfl 9 (by decide) hf_115 (fun _ h9 => h9) rfl dX1_move_175 ?_
            refine W.widen (k := 0) (n := 0) (Nat.le_of_ble_eq_true rfl) (Nat.le_of_ble_eq_true rfl) ?_
            exact W.iret (v := mw + (nI 1)) hx hb hr (fun t9 ht9 hW9 => ⟨⟨_, rfl, by rw [tMs_of (A := false) (B := false) (C := false) (by simp [bnt c_1]) (decide_eq_false c_28) (by rw [show (lo io sz 2 || !se 1) = true from by simp [c_6, c_16]]; exact decide_eq_false (Nat.not_lt.mpr c_29))]; rfl, by rw [ht9, tMs_of (A := false) (B := false) (C := false) (by simp [bnt c_1]) (decide_eq_false c_28) (by rw [show (lo io sz 2 || !se 1) = true from by simp [c_6, c_16]]; exact decide_eq_false (Nat.not_lt.mpr c_29))]; exact hP⟩, hS.F ht9⟩) hS.2.2 dX1_move_178
          · refine lv_iconst (v := nI 1) hx hb dX1_move_138 (by decide) ?_
            refine lv_goto (tgt := 143) hx hb dX1_move_139 (by decide) ?_
            refine lv_istore (lv' := [(8, .int (nI 1)), (7, .int (nI 0)), (6, .int (nI (wy true (lw mv sz 2) (mk 1)))), (5, .int (nI (wy (lo io sz 0 || !se 0) (lw mv sz 0) (mk 0)))), (4, .int (nI (wy (lo io sz 3 || !se 5) (lw mv sz 3) (mk 5)))), (3, .int (nI (wy (lo io sz 0 || lo io sz 2) (lw mv sz 0) (lw mv sz 2)))), (2, .int (nI 0)), (0, .ref k0), (1, .int (b2i false))]) hx hb dX1_move_143 hl (by decide) rfl (fun ls hl => ?_)
            refine lv_aload_n hx hb dX1_move_145 rfl (lv_at hl 7 rfl) ?_
            refine lv_iload_n hx hb dX1_move_146 rfl (lv_at hl 6 rfl) ?_
            refine lv_iload hx hb dX1_move_147 (lv_at hl 1 rfl) ?_
            refine lv_iload hx hb dX1_move_149 (lv_at hl 0 rfl) ?_
            have hFc := va_free (wc := WM k0 kv ko ks km kt kp kb cZ cD cI th mv io sz mk se pv pd op mw) hD hS hA [0, 1, 2, 3, 4, 5, 6, 7] rfl
            refine wr_calli (va_runV (As := [.int (b2i false), .int (b2i false), .int (b2i true)]) (rest := []) ⟨hx, hb, hml, hown, hts⟩ (c_X1_throwing l D k0 kv ko ks km kt kp kb cZ cD cI th mv io sz mk se pv pd op mw hsz s.heap.size false false true ) (cwV 3 hts gX1_move_X1_throwing rfl rfl rfl (by decide +kernel) ⟨Nat.le_of_ble_eq_true rfl, Nat.le_of_ble_eq_true rfl⟩) ⟨fun a U g mk q => ⟨q.1, q.2.1, q.2.2.1, va_K.moved (u := U) (U := U.calling g mk a) (Vm.Alike.refl U.vm) q.2.2.2.1, q.2.2.2.2⟩, va_recv hK hP (ci := 2) (q0 := 0) rfl rfl, fun U hU hW => ⟨rfl, by rw [hU], by rw [hU]; exact hP, va_K.moved hW.alike hK, hD.weaken (fun _ _ _ _ => trivial)⟩⟩ rfl rfl hl.1 rfl (lv_room (Nat.le_of_ble_eq_true rfl)) dX1_move_151 ⟨Nat.le_of_ble_eq_true rfl, Nat.le_of_ble_eq_true rfl⟩) hS hFc (fun r_31 H locs hr_31 hP _ _ hS => ?_)
            subst hr_31
            refine kt_i (y := b2i true) rfl ?_
            have hD : va_D A (WM k0 kv ko ks km kt kp kb cZ cD cI (thr false false true) mv io sz mk se pv pd op mw) := va_D_same (ws := WM k0 kv ko ks km kt kp kb cZ cD cI th mv io sz mk se pv pd op mw) rfl hD
            have hP : va_P D vwCl (WM k0 kv ko ks km kt kp kb cZ cD cI (thr false false true) mv io sz mk se pv pd op mw) H := hP
            refine kb_eq (tgt := 159) hx hb dX1_move_154 (by decide) (fun h => absurd h (by decide)) (fun _ => ?_)
            refine lv_iconst (v := nI 0) hx hb dX1_move_157 (by decide) ?_
            refine W.widen (k := 0) (n := 0) (Nat.le_of_ble_eq_true rfl) (Nat.le_of_ble_eq_true rfl) ?_
            exact W.iret (v := nI 0) hx hb hr (fun t9 ht9 hW9 => ⟨⟨_, rfl, by rw [tMs_of (A := false) (B := false) (C := true) (by simp [bnt c_1]) (decide_eq_false c_28) (by rw [show (lo io sz 2 || !se 1) = true from by simp [c_6, c_16]]; exact decide_eq_true c_29)]; rfl, by rw [ht9, tMs_of (A := false) (B := false) (C := true) (by simp [bnt c_1]) (decide_eq_false c_28) (by rw [show (lo io sz 2 || !se 1) = true from by simp [c_6, c_16]]; exact decide_eq_true c_29)]; exact hP⟩, hS.F ht9⟩) hS.2.2 dX1_move_158
        · refine lv_iconst (v := nI 1) hx hb dX1_move_98 (by decide) ?_
          refine lv_goto (tgt := 103) hx hb dX1_move_99 (by decide) ?_
          refine lv_istore (lv' := [(7, .int (nI 1)), (6, .int (nI (wy true (lw mv sz 2) (mk 1)))), (5, .int (nI (wy (lo io sz 0 || !se 0) (lw mv sz 0) (mk 0)))), (4, .int (nI (wy (lo io sz 3 || !se 5) (lw mv sz 3) (mk 5)))), (3, .int (nI (wy (lo io sz 0 || lo io sz 2) (lw mv sz 0) (lw mv sz 2)))), (2, .int (nI 0)), (0, .ref k0), (1, .int (b2i false))]) hx hb dX1_move_103 hl (by decide) rfl (fun ls hl => ?_)
          refine lv_iload_n hx hb dX1_move_105 rfl (lv_at hl 7 rfl) ?_
          refine kb_eq (tgt := 132) hx hb dX1_move_106 (by decide) (fun _ => ?_) (fun h => absurd h (by decide))
          refine lv_iload hx hb dX1_move_132 (lv_at hl 1 rfl) ?_
          refine lv_iconst (v := nI 4) hx hb dX1_move_134 (by decide) ?_
          refine kn_icmp_ge (tgt := 142) hx hb (Nat.lt_trans (wy_lt _ _ _) (by decide)) (by decide) dX1_move_135 (by decide) (fun c_32 => ?_) (fun c_32 => ?_)
          · refine lv_iconst (v := nI 0) hx hb dX1_move_142 (by decide) ?_
            refine lv_istore (lv' := [(8, .int (nI 0)), (7, .int (nI 1)), (6, .int (nI (wy true (lw mv sz 2) (mk 1)))), (5, .int (nI (wy (lo io sz 0 || !se 0) (lw mv sz 0) (mk 0)))), (4, .int (nI (wy (lo io sz 3 || !se 5) (lw mv sz 3) (mk 5)))), (3, .int (nI (wy (lo io sz 0 || lo io sz 2) (lw mv sz 0) (lw mv sz 2)))), (2, .int (nI 0)), (0, .ref k0), (1, .int (b2i false))]) hx hb dX1_move_143 hl (by decide) rfl (fun ls hl => ?_)
            refine lv_aload_n hx hb dX1_move_145 rfl (lv_at hl 7 rfl) ?_
            refine lv_iload_n hx hb dX1_move_146 rfl (lv_at hl 6 rfl) ?_
            refine lv_iload hx hb dX1_move_147 (lv_at hl 1 rfl) ?_
            refine lv_iload hx hb dX1_move_149 (lv_at hl 0 rfl) ?_
            have hFc := va_free (wc := WM k0 kv ko ks km kt kp kb cZ cD cI th mv io sz mk se pv pd op mw) hD hS hA [0, 1, 2, 3, 4, 5, 6, 7] rfl
            refine wr_calli (va_runV (As := [.int (b2i false), .int (b2i true), .int (b2i false)]) (rest := []) ⟨hx, hb, hml, hown, hts⟩ (c_X1_throwing l D k0 kv ko ks km kt kp kb cZ cD cI th mv io sz mk se pv pd op mw hsz s.heap.size false true false ) (cwV 3 hts gX1_move_X1_throwing rfl rfl rfl (by decide +kernel) ⟨Nat.le_of_ble_eq_true rfl, Nat.le_of_ble_eq_true rfl⟩) ⟨fun a U g mk q => ⟨q.1, q.2.1, q.2.2.1, va_K.moved (u := U) (U := U.calling g mk a) (Vm.Alike.refl U.vm) q.2.2.2.1, q.2.2.2.2⟩, va_recv hK hP (ci := 2) (q0 := 0) rfl rfl, fun U hU hW => ⟨rfl, by rw [hU], by rw [hU]; exact hP, va_K.moved hW.alike hK, hD.weaken (fun _ _ _ _ => trivial)⟩⟩ rfl rfl hl.1 rfl (lv_room (Nat.le_of_ble_eq_true rfl)) dX1_move_151 ⟨Nat.le_of_ble_eq_true rfl, Nat.le_of_ble_eq_true rfl⟩) hS hFc (fun r_33 H locs hr_33 hP _ _ hS => ?_)
            subst hr_33
            refine kt_i (y := b2i true) rfl ?_
            have hD : va_D A (WM k0 kv ko ks km kt kp kb cZ cD cI (thr false true false) mv io sz mk se pv pd op mw) := va_D_same (ws := WM k0 kv ko ks km kt kp kb cZ cD cI th mv io sz mk se pv pd op mw) rfl hD
            have hP : va_P D vwCl (WM k0 kv ko ks km kt kp kb cZ cD cI (thr false true false) mv io sz mk se pv pd op mw) H := hP
            refine kb_eq (tgt := 159) hx hb dX1_move_154 (by decide) (fun h => absurd h (by decide)) (fun _ => ?_)
            refine lv_iconst (v := nI 0) hx hb dX1_move_157 (by decide) ?_
            refine W.widen (k := 0) (n := 0) (Nat.le_of_ble_eq_true rfl) (Nat.le_of_ble_eq_true rfl) ?_
            exact W.iret (v := nI 0) hx hb hr (fun t9 ht9 hW9 => ⟨⟨_, rfl, by rw [tMs_of (A := false) (B := true) (C := false) (by simp [bnt c_1]) (decide_eq_true c_28) (by rw [show (lo io sz 2 || !se 1) = true from by simp [c_6, c_16]]; exact decide_eq_false (Nat.not_lt.mpr c_32))]; rfl, by rw [ht9, tMs_of (A := false) (B := true) (C := false) (by simp [bnt c_1]) (decide_eq_true c_28) (by rw [show (lo io sz 2 || !se 1) = true from by simp [c_6, c_16]]; exact decide_eq_false (Nat.not_lt.mpr c_32))]; exact hP⟩, hS.F ht9⟩) hS.2.2 dX1_move_158
          · refine lv_iconst (v := nI 1) hx hb dX1_move_138 (by decide) ?_
            refine lv_goto (tgt := 143) hx hb dX1_move_139 (by decide) ?_
            refine lv_istore (lv' := [(8, .int (nI 1)), (7, .int (nI 1)), (6, .int (nI (wy true (lw mv sz 2) (mk 1)))), (5, .int (nI (wy (lo io sz 0 || !se 0) (lw mv sz 0) (mk 0)))), (4, .int (nI (wy (lo io sz 3 || !se 5) (lw mv sz 3) (mk 5)))), (3, .int (nI (wy (lo io sz 0 || lo io sz 2) (lw mv sz 0) (lw mv sz 2)))), (2, .int (nI 0)), (0, .ref k0), (1, .int (b2i false))]) hx hb dX1_move_143 hl (by decide) rfl (fun ls hl => ?_)
            refine lv_aload_n hx hb dX1_move_145 rfl (lv_at hl 7 rfl) ?_
            refine lv_iload_n hx hb dX1_move_146 rfl (lv_at hl 6 rfl) ?_
            refine lv_iload hx hb dX1_move_147 (lv_at hl 1 rfl) ?_
            refine lv_iload hx hb dX1_move_149 (lv_at hl 0 rfl) ?_
            have hFc := va_free (wc := WM k0 kv ko ks km kt kp kb cZ cD cI th mv io sz mk se pv pd op mw) hD hS hA [0, 1, 2, 3, 4, 5, 6, 7] rfl
            refine wr_calli (va_runV (As := [.int (b2i false), .int (b2i true), .int (b2i true)]) (rest := []) ⟨hx, hb, hml, hown, hts⟩ (c_X1_throwing l D k0 kv ko ks km kt kp kb cZ cD cI th mv io sz mk se pv pd op mw hsz s.heap.size false true true ) (cwV 3 hts gX1_move_X1_throwing rfl rfl rfl (by decide +kernel) ⟨Nat.le_of_ble_eq_true rfl, Nat.le_of_ble_eq_true rfl⟩) ⟨fun a U g mk q => ⟨q.1, q.2.1, q.2.2.1, va_K.moved (u := U) (U := U.calling g mk a) (Vm.Alike.refl U.vm) q.2.2.2.1, q.2.2.2.2⟩, va_recv hK hP (ci := 2) (q0 := 0) rfl rfl, fun U hU hW => ⟨rfl, by rw [hU], by rw [hU]; exact hP, va_K.moved hW.alike hK, hD.weaken (fun _ _ _ _ => trivial)⟩⟩ rfl rfl hl.1 rfl (lv_room (Nat.le_of_ble_eq_true rfl)) dX1_move_151 ⟨Nat.le_of_ble_eq_true rfl, Nat.le_of_ble_eq_true rfl⟩) hS hFc (fun r_34 H locs hr_34 hP _ _ hS => ?_)
            subst hr_34
            refine kt_i (y := b2i true) rfl ?_
            have hD : va_D A (WM k0 kv ko ks km kt kp kb cZ cD cI (thr false true true) mv io sz mk se pv pd op mw) := va_D_same (ws := WM k0 kv ko ks km kt kp kb cZ cD cI th mv io sz mk se pv pd op mw) rfl hD
            have hP : va_P D vwCl (WM k0 kv ko ks km kt kp kb cZ cD cI (thr false true true) mv io sz mk se pv pd op mw) H := hP
            refine kb_eq (tgt := 159) hx hb dX1_move_154 (by decide) (fun h => absurd h (by decide)) (fun _ => ?_)
            refine lv_iconst (v := nI 0) hx hb dX1_move_157 (by decide) ?_
            refine W.widen (k := 0) (n := 0) (Nat.le_of_ble_eq_true rfl) (Nat.le_of_ble_eq_true rfl) ?_
            exact W.iret (v := nI 0) hx hb hr (fun t9 ht9 hW9 => ⟨⟨_, rfl, by rw [tMs_of (A := false) (B := true) (C := true) (by simp [bnt c_1]) (decide_eq_true c_28) (by rw [show (lo io sz 2 || !se 1) = true from by simp [c_6, c_16]]; exact decide_eq_true c_32)]; rfl, by rw [ht9, tMs_of (A := false) (B := true) (C := true) (by simp [bnt c_1]) (decide_eq_true c_28) (by rw [show (lo io sz 2 || !se 1) = true from by simp [c_6, c_16]]; exact decide_eq_true c_32)]; exact hP⟩, hS.F ht9⟩) hS.2.2 dX1_move_158
  · refine lv_iconst (v := nI 1) hx hb dX1_move_8 (by decide) ?_
    refine lv_goto (tgt := 13) hx hb dX1_move_9 (by decide) ?_
    refine lv_istore_n (lv' := [(2, .int (nI 1)), (0, .ref k0), (1, .int (b2i false))]) hx hb dX1_move_13 rfl hl (by decide) rfl (fun ls hl => ?_)
    refine lv_aload_n hx hb dX1_move_14 rfl (lv_at hl 1 rfl) ?_
    refine lv_iconst (v := nI 0) hx hb dX1_move_15 (by decide) ?_
    refine lv_iconst (v := nI 2) hx hb dX1_move_16 (by decide) ?_
    refine rd_calli (va_runV (As := [.int (nI 0), .int (nI 2)]) (rest := []) ⟨hx, hb, hml, hown, hts⟩ (c_X1_latestWay l D k0 kv ko ks km kt kp kb cZ cD cI th mv io sz mk se pv pd op mw hsz 0 2 (by omega) (by omega)) (cwV 2 hts gX1_move_X1_latestWay rfl rfl rfl (by decide +kernel) ⟨Nat.le_of_ble_eq_true rfl, Nat.le_of_ble_eq_true rfl⟩) ⟨fun a U g mk q => ⟨q.1, q.2.1, va_K.moved (u := U) (U := U.calling g mk a) (Vm.Alike.refl U.vm) q.2.2⟩, va_recv hK hP (ci := 2) (q0 := 0) rfl rfl, fun U hU hW => ⟨rfl, by rw [hU]; exact hP, va_K.moved hW.alike hK⟩⟩ rfl rfl hl.1 rfl (lv_room (Nat.le_of_ble_eq_true rfl)) dX1_move_17 ⟨Nat.le_of_ble_eq_true rfl, Nat.le_of_ble_eq_true rfl⟩) (fun r_35 hr_35 => ?_)
    subst hr_35
    refine lv_istore_n (lv' := [(3, .int (nI (wy (lo io sz 0 || lo io sz 2) (lw mv sz 0) (lw mv sz 2)))), (2, .int (nI 1)), (0, .ref k0), (1, .int (b2i false))]) hx hb dX1_move_20 rfl hl (by decide) rfl (fun ls hl => ?_)
    refine lv_aload_n hx hb dX1_move_21 rfl (lv_at hl 2 rfl) ?_
    refine lv_iconst (v := nI 3) hx hb dX1_move_22 (by decide) ?_
    refine lv_iconst (v := nI 5) hx hb dX1_move_23 (by decide) ?_
    refine rd_calli (va_runV (As := [.int (nI 3), .int (nI 5)]) (rest := []) ⟨hx, hb, hml, hown, hts⟩ (c_X1_markWay l D k0 kv ko ks km kt kp kb cZ cD cI th mv io sz mk se pv pd op mw hsz 3 5 (by omega) (by omega)) (cwV 2 hts gX1_move_X1_markWay rfl rfl rfl (by decide +kernel) ⟨Nat.le_of_ble_eq_true rfl, Nat.le_of_ble_eq_true rfl⟩) ⟨fun a U g mk q => ⟨q.1, q.2.1, va_K.moved (u := U) (U := U.calling g mk a) (Vm.Alike.refl U.vm) q.2.2⟩, va_recv hK hP (ci := 2) (q0 := 0) rfl rfl, fun U hU hW => ⟨rfl, by rw [hU]; exact hP, va_K.moved hW.alike hK⟩⟩ rfl rfl hl.1 rfl (lv_room (Nat.le_of_ble_eq_true rfl)) dX1_move_24 ⟨Nat.le_of_ble_eq_true rfl, Nat.le_of_ble_eq_true rfl⟩) (fun r_36 hr_36 => ?_)
    subst hr_36
    refine lv_istore (lv' := [(4, .int (nI (wy (lo io sz 3 || !se 5) (lw mv sz 3) (mk 5)))), (3, .int (nI (wy (lo io sz 0 || lo io sz 2) (lw mv sz 0) (lw mv sz 2)))), (2, .int (nI 1)), (0, .ref k0), (1, .int (b2i false))]) hx hb dX1_move_27 hl (by decide) rfl (fun ls hl => ?_)
    refine lv_aload_n hx hb dX1_move_29 rfl (lv_at hl 3 rfl) ?_
    refine lv_iconst (v := nI 0) hx hb dX1_move_30 (by decide) ?_
    refine lv_iconst (v := nI 0) hx hb dX1_move_31 (by decide) ?_
    refine rd_calli (va_runV (As := [.int (nI 0), .int (nI 0)]) (rest := []) ⟨hx, hb, hml, hown, hts⟩ (c_X1_markWay l D k0 kv ko ks km kt kp kb cZ cD cI th mv io sz mk se pv pd op mw hsz 0 0 (by omega) (by omega)) (cwV 2 hts gX1_move_X1_markWay rfl rfl rfl (by decide +kernel) ⟨Nat.le_of_ble_eq_true rfl, Nat.le_of_ble_eq_true rfl⟩) ⟨fun a U g mk q => ⟨q.1, q.2.1, va_K.moved (u := U) (U := U.calling g mk a) (Vm.Alike.refl U.vm) q.2.2⟩, va_recv hK hP (ci := 2) (q0 := 0) rfl rfl, fun U hU hW => ⟨rfl, by rw [hU]; exact hP, va_K.moved hW.alike hK⟩⟩ rfl rfl hl.1 rfl (lv_room (Nat.le_of_ble_eq_true rfl)) dX1_move_32 ⟨Nat.le_of_ble_eq_true rfl, Nat.le_of_ble_eq_true rfl⟩) (fun r_37 hr_37 => ?_)
    subst hr_37
    refine lv_istore (lv' := [(5, .int (nI (wy (lo io sz 0 || !se 0) (lw mv sz 0) (mk 0)))), (4, .int (nI (wy (lo io sz 3 || !se 5) (lw mv sz 3) (mk 5)))), (3, .int (nI (wy (lo io sz 0 || lo io sz 2) (lw mv sz 0) (lw mv sz 2)))), (2, .int (nI 1)), (0, .ref k0), (1, .int (b2i false))]) hx hb dX1_move_35 hl (by decide) rfl (fun ls hl => ?_)
    refine lv_aload_n hx hb dX1_move_37 rfl (lv_at hl 4 rfl) ?_
    refine lv_iconst (v := nI 2) hx hb dX1_move_38 (by decide) ?_
    refine rd_calli (va_runV (As := [.int (nI 2)]) (rest := []) ⟨hx, hb, hml, hown, hts⟩ (c_X1_latestOut l D k0 kv ko ks km kt kp kb cZ cD cI th mv io sz mk se pv pd op mw hsz 2 (by omega)) (cwV 1 hts gX1_move_X1_latestOut rfl rfl rfl (by decide +kernel) ⟨Nat.le_of_ble_eq_true rfl, Nat.le_of_ble_eq_true rfl⟩) ⟨fun a U g mk q => ⟨q.1, q.2.1, va_K.moved (u := U) (U := U.calling g mk a) (Vm.Alike.refl U.vm) q.2.2⟩, va_recv hK hP (ci := 2) (q0 := 0) rfl rfl, fun U hU hW => ⟨rfl, by rw [hU]; exact hP, va_K.moved hW.alike hK⟩⟩ rfl rfl hl.1 rfl (lv_room (Nat.le_of_ble_eq_true rfl)) dX1_move_39 ⟨Nat.le_of_ble_eq_true rfl, Nat.le_of_ble_eq_true rfl⟩) (fun r_38 hr_38 => ?_)
    subst hr_38
    refine kb_ne (tgt := 54) hx hb dX1_move_42 (by decide) (fun c_39 => ?_) (fun c_39 => ?_)
    · refine lv_iconst (v := nI 1) hx hb dX1_move_54 (by decide) ?_
      refine lv_goto (tgt := 59) hx hb dX1_move_55 (by decide) ?_
      refine lv_aload_n hx hb dX1_move_59 rfl (lv_at hl 4 rfl) ?_
      refine lv_iconst (v := nI 2) hx hb dX1_move_60 (by decide) ?_
      refine rd_calld (va_runV (As := [.int (nI 2)]) (rest := [.int (nI 1)]) ⟨hx, hb, hml, hown, hts⟩ (c_X1_latestValue l D k0 kv ko ks km kt kp kb cZ cD cI th mv io sz mk se pv pd op mw hsz 2 (by omega)) (cwV 1 hts gX1_move_X1_latestValue rfl rfl rfl (by decide +kernel) ⟨Nat.le_of_ble_eq_true rfl, Nat.le_of_ble_eq_true rfl⟩) ⟨fun a U g mk q => ⟨q.1, q.2.1, va_K.moved (u := U) (U := U.calling g mk a) (Vm.Alike.refl U.vm) q.2.2⟩, va_recv hK hP (ci := 2) (q0 := 0) rfl rfl, fun U hU hW => ⟨rfl, by rw [hU]; exact hP, va_K.moved hW.alike hK⟩⟩ rfl rfl hl.1 rfl (lv_room (Nat.le_of_ble_eq_true rfl)) dX1_move_61 ⟨Nat.le_of_ble_eq_true rfl, Nat.le_of_ble_eq_true rfl⟩) (fun r_40 hr_40 => ?_)
      subst hr_40
      refine lv_aload_n hx hb dX1_move_64 rfl (lv_at hl 4 rfl) ?_
      refine va_get (D := D) (ci := 2) (v := .ref km) (C := RX1) (T := TX1) (N := 10) hx hb hts hinRX1 hown hK hP 0 rfl rfl 4 (by decide) hf_21 (fun _ h9 => h9) rfl dX1_move_65 ?_
      refine lv_iconst (v := nI 1) hx hb dX1_move_68 (by decide) ?_
      refine kn_dald hx hb hK hP 4 1 rfl rfl (by omega) (by decide) dX1_move_69 ?_
      refine rd_calli (va_runS (As := [.int (b2i true), .double (lw mv sz 2), .double (mk 1)]) (rest := []) ⟨hx, hb, hml, hown, hts⟩ (c_X1_way l true (lw mv sz 2) (mk 1) ) (va_cwS 3 hts gX1_move_X1_way rfl rfl rfl (by decide +kernel) ⟨Nat.le_of_ble_eq_true rfl, Nat.le_of_ble_eq_true rfl⟩) ⟨fun a U g mk q => q, fun U hU hW => ⟨rfl, trivial⟩⟩ rfl rfl hl.1 rfl (lv_room (Nat.le_of_ble_eq_true rfl)) dX1_move_70 ⟨Nat.le_of_ble_eq_true rfl, Nat.le_of_ble_eq_true rfl⟩) (fun r_41 hr_41 => ?_)
      subst hr_41
      refine lv_istore (lv' := [(6, .int (nI (wy true (lw mv sz 2) (mk 1)))), (5, .int (nI (wy (lo io sz 0 || !se 0) (lw mv sz 0) (mk 0)))), (4, .int (nI (wy (lo io sz 3 || !se 5) (lw mv sz 3) (mk 5)))), (3, .int (nI (wy (lo io sz 0 || lo io sz 2) (lw mv sz 0) (lw mv sz 2)))), (2, .int (nI 1)), (0, .ref k0), (1, .int (b2i false))]) hx hb dX1_move_73 hl (by decide) rfl (fun ls hl => ?_)
      refine lv_iload_n hx hb dX1_move_75 rfl (lv_at hl 6 rfl) ?_
      refine kb_eq (tgt := 92) hx hb dX1_move_76 (by decide) (fun _ => ?_) (fun h => absurd h (by decide))
      refine lv_iload hx hb dX1_move_92 (lv_at hl 1 rfl) ?_
      refine lv_iconst (v := nI 4) hx hb dX1_move_94 (by decide) ?_
      refine kn_icmp_ne (tgt := 102) hx hb (Nat.lt_trans (wy_lt _ _ _) (by decide)) (by decide) dX1_move_95 (by decide) (fun c_42 => ?_) (fun c_42 => ?_)
      · refine lv_iconst (v := nI 0) hx hb dX1_move_102 (by decide) ?_
        refine lv_istore (lv' := [(7, .int (nI 0)), (6, .int (nI (wy true (lw mv sz 2) (mk 1)))), (5, .int (nI (wy (lo io sz 0 || !se 0) (lw mv sz 0) (mk 0)))), (4, .int (nI (wy (lo io sz 3 || !se 5) (lw mv sz 3) (mk 5)))), (3, .int (nI (wy (lo io sz 0 || lo io sz 2) (lw mv sz 0) (lw mv sz 2)))), (2, .int (nI 1)), (0, .ref k0), (1, .int (b2i false))]) hx hb dX1_move_103 hl (by decide) rfl (fun ls hl => ?_)
        refine lv_iload_n hx hb dX1_move_105 rfl (lv_at hl 7 rfl) ?_
        refine kb_eq (tgt := 132) hx hb dX1_move_106 (by decide) (fun _ => ?_) (fun h => absurd h (by decide))
        refine lv_iload hx hb dX1_move_132 (lv_at hl 1 rfl) ?_
        refine lv_iconst (v := nI 4) hx hb dX1_move_134 (by decide) ?_
        refine kn_icmp_ge (tgt := 142) hx hb (Nat.lt_trans (wy_lt _ _ _) (by decide)) (by decide) dX1_move_135 (by decide) (fun c_43 => ?_) (fun c_43 => ?_)
        · refine lv_iconst (v := nI 0) hx hb dX1_move_142 (by decide) ?_
          refine lv_istore (lv' := [(8, .int (nI 0)), (7, .int (nI 0)), (6, .int (nI (wy true (lw mv sz 2) (mk 1)))), (5, .int (nI (wy (lo io sz 0 || !se 0) (lw mv sz 0) (mk 0)))), (4, .int (nI (wy (lo io sz 3 || !se 5) (lw mv sz 3) (mk 5)))), (3, .int (nI (wy (lo io sz 0 || lo io sz 2) (lw mv sz 0) (lw mv sz 2)))), (2, .int (nI 1)), (0, .ref k0), (1, .int (b2i false))]) hx hb dX1_move_143 hl (by decide) rfl (fun ls hl => ?_)
          refine lv_aload_n hx hb dX1_move_145 rfl (lv_at hl 7 rfl) ?_
          refine lv_iload_n hx hb dX1_move_146 rfl (lv_at hl 6 rfl) ?_
          refine lv_iload hx hb dX1_move_147 (lv_at hl 1 rfl) ?_
          refine lv_iload hx hb dX1_move_149 (lv_at hl 0 rfl) ?_
          have hFc := va_free (wc := WM k0 kv ko ks km kt kp kb cZ cD cI th mv io sz mk se pv pd op mw) hD hS hA [0, 1, 2, 3, 4, 5, 6, 7] rfl
          refine wr_calli (va_runV (As := [.int (b2i true), .int (b2i false), .int (b2i false)]) (rest := []) ⟨hx, hb, hml, hown, hts⟩ (c_X1_throwing l D k0 kv ko ks km kt kp kb cZ cD cI th mv io sz mk se pv pd op mw hsz s.heap.size true false false ) (cwV 3 hts gX1_move_X1_throwing rfl rfl rfl (by decide +kernel) ⟨Nat.le_of_ble_eq_true rfl, Nat.le_of_ble_eq_true rfl⟩) ⟨fun a U g mk q => ⟨q.1, q.2.1, q.2.2.1, va_K.moved (u := U) (U := U.calling g mk a) (Vm.Alike.refl U.vm) q.2.2.2.1, q.2.2.2.2⟩, va_recv hK hP (ci := 2) (q0 := 0) rfl rfl, fun U hU hW => ⟨rfl, by rw [hU], by rw [hU]; exact hP, va_K.moved hW.alike hK, hD.weaken (fun _ _ _ _ => trivial)⟩⟩ rfl rfl hl.1 rfl (lv_room (Nat.le_of_ble_eq_true rfl)) dX1_move_151 ⟨Nat.le_of_ble_eq_true rfl, Nat.le_of_ble_eq_true rfl⟩) hS hFc (fun r_44 H locs hr_44 hP _ _ hS => ?_)
          subst hr_44
          refine kt_i (y := b2i true) rfl ?_
          have hD : va_D A (WM k0 kv ko ks km kt kp kb cZ cD cI (thr true false false) mv io sz mk se pv pd op mw) := va_D_same (ws := WM k0 kv ko ks km kt kp kb cZ cD cI th mv io sz mk se pv pd op mw) rfl hD
          have hP : va_P D vwCl (WM k0 kv ko ks km kt kp kb cZ cD cI (thr true false false) mv io sz mk se pv pd op mw) H := hP
          refine kb_eq (tgt := 159) hx hb dX1_move_154 (by decide) (fun h => absurd h (by decide)) (fun _ => ?_)
          refine lv_iconst (v := nI 0) hx hb dX1_move_157 (by decide) ?_
          refine W.widen (k := 0) (n := 0) (Nat.le_of_ble_eq_true rfl) (Nat.le_of_ble_eq_true rfl) ?_
          exact W.iret (v := nI 0) hx hb hr (fun t9 ht9 hW9 => ⟨⟨_, rfl, by rw [tMs_of (A := true) (B := false) (C := false) (by simp [c_1]) (decide_eq_false c_42) (by rw [show (lo io sz 2 || !se 1) = true from by simp [c_39]]; exact decide_eq_false (Nat.not_lt.mpr c_43))]; rfl, by rw [ht9, tMs_of (A := true) (B := false) (C := false) (by simp [c_1]) (decide_eq_false c_42) (by rw [show (lo io sz 2 || !se 1) = true from by simp [c_39]]; exact decide_eq_false (Nat.not_lt.mpr c_43))]; exact hP⟩, hS.F ht9⟩) hS.2.2 dX1_move_158
        · refine lv_iconst (v := nI 1) hx hb dX1_move_138 (by decide) ?_
          refine lv_goto (tgt := 143) hx hb dX1_move_139 (by decide) ?_
          refine lv_istore (lv' := [(8, .int (nI 1)), (7, .int (nI 0)), (6, .int (nI (wy true (lw mv sz 2) (mk 1)))), (5, .int (nI (wy (lo io sz 0 || !se 0) (lw mv sz 0) (mk 0)))), (4, .int (nI (wy (lo io sz 3 || !se 5) (lw mv sz 3) (mk 5)))), (3, .int (nI (wy (lo io sz 0 || lo io sz 2) (lw mv sz 0) (lw mv sz 2)))), (2, .int (nI 1)), (0, .ref k0), (1, .int (b2i false))]) hx hb dX1_move_143 hl (by decide) rfl (fun ls hl => ?_)
          refine lv_aload_n hx hb dX1_move_145 rfl (lv_at hl 7 rfl) ?_
          refine lv_iload_n hx hb dX1_move_146 rfl (lv_at hl 6 rfl) ?_
          refine lv_iload hx hb dX1_move_147 (lv_at hl 1 rfl) ?_
          refine lv_iload hx hb dX1_move_149 (lv_at hl 0 rfl) ?_
          have hFc := va_free (wc := WM k0 kv ko ks km kt kp kb cZ cD cI th mv io sz mk se pv pd op mw) hD hS hA [0, 1, 2, 3, 4, 5, 6, 7] rfl
          refine wr_calli (va_runV (As := [.int (b2i true), .int (b2i false), .int (b2i true)]) (rest := []) ⟨hx, hb, hml, hown, hts⟩ (c_X1_throwing l D k0 kv ko ks km kt kp kb cZ cD cI th mv io sz mk se pv pd op mw hsz s.heap.size true false true ) (cwV 3 hts gX1_move_X1_throwing rfl rfl rfl (by decide +kernel) ⟨Nat.le_of_ble_eq_true rfl, Nat.le_of_ble_eq_true rfl⟩) ⟨fun a U g mk q => ⟨q.1, q.2.1, q.2.2.1, va_K.moved (u := U) (U := U.calling g mk a) (Vm.Alike.refl U.vm) q.2.2.2.1, q.2.2.2.2⟩, va_recv hK hP (ci := 2) (q0 := 0) rfl rfl, fun U hU hW => ⟨rfl, by rw [hU], by rw [hU]; exact hP, va_K.moved hW.alike hK, hD.weaken (fun _ _ _ _ => trivial)⟩⟩ rfl rfl hl.1 rfl (lv_room (Nat.le_of_ble_eq_true rfl)) dX1_move_151 ⟨Nat.le_of_ble_eq_true rfl, Nat.le_of_ble_eq_true rfl⟩) hS hFc (fun r_45 H locs hr_45 hP _ _ hS => ?_)
          subst hr_45
          refine kt_i (y := b2i true) rfl ?_
          have hD : va_D A (WM k0 kv ko ks km kt kp kb cZ cD cI (thr true false true) mv io sz mk se pv pd op mw) := va_D_same (ws := WM k0 kv ko ks km kt kp kb cZ cD cI th mv io sz mk se pv pd op mw) rfl hD
          have hP : va_P D vwCl (WM k0 kv ko ks km kt kp kb cZ cD cI (thr true false true) mv io sz mk se pv pd op mw) H := hP
          refine kb_eq (tgt := 159) hx hb dX1_move_154 (by decide) (fun h => absurd h (by decide)) (fun _ => ?_)
          refine lv_iconst (v := nI 0) hx hb dX1_move_157 (by decide) ?_
          refine W.widen (k := 0) (n := 0) (Nat.le_of_ble_eq_true rfl) (Nat.le_of_ble_eq_true rfl) ?_
          exact W.iret (v := nI 0) hx hb hr (fun t9 ht9 hW9 => ⟨⟨_, rfl, by rw [tMs_of (A := true) (B := false) (C := true) (by simp [c_1]) (decide_eq_false c_42) (by rw [show (lo io sz 2 || !se 1) = true from by simp [c_39]]; exact decide_eq_true c_43)]; rfl, by rw [ht9, tMs_of (A := true) (B := false) (C := true) (by simp [c_1]) (decide_eq_false c_42) (by rw [show (lo io sz 2 || !se 1) = true from by simp [c_39]]; exact decide_eq_true c_43)]; exact hP⟩, hS.F ht9⟩) hS.2.2 dX1_move_158
      · refine lv_iconst (v := nI 1) hx hb dX1_move_98 (by decide) ?_
        refine lv_goto (tgt := 103) hx hb dX1_move_99 (by decide) ?_
        refine lv_istore (lv' := [(7, .int (nI 1)), (6, .int (nI (wy true (lw mv sz 2) (mk 1)))), (5, .int (nI (wy (lo io sz 0 || !se 0) (lw mv sz 0) (mk 0)))), (4, .int (nI (wy (lo io sz 3 || !se 5) (lw mv sz 3) (mk 5)))), (3, .int (nI (wy (lo io sz 0 || lo io sz 2) (lw mv sz 0) (lw mv sz 2)))), (2, .int (nI 1)), (0, .ref k0), (1, .int (b2i false))]) hx hb dX1_move_103 hl (by decide) rfl (fun ls hl => ?_)
        refine lv_iload_n hx hb dX1_move_105 rfl (lv_at hl 7 rfl) ?_
        refine kb_eq (tgt := 132) hx hb dX1_move_106 (by decide) (fun _ => ?_) (fun h => absurd h (by decide))
        refine lv_iload hx hb dX1_move_132 (lv_at hl 1 rfl) ?_
        refine lv_iconst (v := nI 4) hx hb dX1_move_134 (by decide) ?_
        refine kn_icmp_ge (tgt := 142) hx hb (Nat.lt_trans (wy_lt _ _ _) (by decide)) (by decide) dX1_move_135 (by decide) (fun c_46 => ?_) (fun c_46 => ?_)
        · refine lv_iconst (v := nI 0) hx hb dX1_move_142 (by decide) ?_
          refine lv_istore (lv' := [(8, .int (nI 0)), (7, .int (nI 1)), (6, .int (nI (wy true (lw mv sz 2) (mk 1)))), (5, .int (nI (wy (lo io sz 0 || !se 0) (lw mv sz 0) (mk 0)))), (4, .int (nI (wy (lo io sz 3 || !se 5) (lw mv sz 3) (mk 5)))), (3, .int (nI (wy (lo io sz 0 || lo io sz 2) (lw mv sz 0) (lw mv sz 2)))), (2, .int (nI 1)), (0, .ref k0), (1, .int (b2i false))]) hx hb dX1_move_143 hl (by decide) rfl (fun ls hl => ?_)
          refine lv_aload_n hx hb dX1_move_145 rfl (lv_at hl 7 rfl) ?_
          refine lv_iload_n hx hb dX1_move_146 rfl (lv_at hl 6 rfl) ?_
          refine lv_iload hx hb dX1_move_147 (lv_at hl 1 rfl) ?_
          refine lv_iload hx hb dX1_move_149 (lv_at hl 0 rfl) ?_
          have hFc := va_free (wc := WM k0 kv ko ks km kt kp kb cZ cD cI th mv io sz mk se pv pd op mw) hD hS hA [0, 1, 2, 3, 4, 5, 6, 7] rfl
          refine wr_calli (va_runV (As := [.int (b2i true), .int (b2i true), .int (b2i false)]) (rest := []) ⟨hx, hb, hml, hown, hts⟩ (c_X1_throwing l D k0 kv ko ks km kt kp kb cZ cD cI th mv io sz mk se pv pd op mw hsz s.heap.size true true false ) (cwV 3 hts gX1_move_X1_throwing rfl rfl rfl (by decide +kernel) ⟨Nat.le_of_ble_eq_true rfl, Nat.le_of_ble_eq_true rfl⟩) ⟨fun a U g mk q => ⟨q.1, q.2.1, q.2.2.1, va_K.moved (u := U) (U := U.calling g mk a) (Vm.Alike.refl U.vm) q.2.2.2.1, q.2.2.2.2⟩, va_recv hK hP (ci := 2) (q0 := 0) rfl rfl, fun U hU hW => ⟨rfl, by rw [hU], by rw [hU]; exact hP, va_K.moved hW.alike hK, hD.weaken (fun _ _ _ _ => trivial)⟩⟩ rfl rfl hl.1 rfl (lv_room (Nat.le_of_ble_eq_true rfl)) dX1_move_151 ⟨Nat.le_of_ble_eq_true rfl, Nat.le_of_ble_eq_true rfl⟩) hS hFc (fun r_47 H locs hr_47 hP _ _ hS => ?_)
          subst hr_47
          refine kt_i (y := b2i true) rfl ?_
          have hD : va_D A (WM k0 kv ko ks km kt kp kb cZ cD cI (thr true true false) mv io sz mk se pv pd op mw) := va_D_same (ws := WM k0 kv ko ks km kt kp kb cZ cD cI th mv io sz mk se pv pd op mw) rfl hD
          have hP : va_P D vwCl (WM k0 kv ko ks km kt kp kb cZ cD cI (thr true true false) mv io sz mk se pv pd op mw) H := hP
          refine kb_eq (tgt := 159) hx hb dX1_move_154 (by decide) (fun h => absurd h (by decide)) (fun _ => ?_)
          refine lv_iconst (v := nI 0) hx hb dX1_move_157 (by decide) ?_
          refine W.widen (k := 0) (n := 0) (Nat.le_of_ble_eq_true rfl) (Nat.le_of_ble_eq_true rfl) ?_
          exact W.iret (v := nI 0) hx hb hr (fun t9 ht9 hW9 => ⟨⟨_, rfl, by rw [tMs_of (A := true) (B := true) (C := false) (by simp [c_1]) (decide_eq_true c_42) (by rw [show (lo io sz 2 || !se 1) = true from by simp [c_39]]; exact decide_eq_false (Nat.not_lt.mpr c_46))]; rfl, by rw [ht9, tMs_of (A := true) (B := true) (C := false) (by simp [c_1]) (decide_eq_true c_42) (by rw [show (lo io sz 2 || !se 1) = true from by simp [c_39]]; exact decide_eq_false (Nat.not_lt.mpr c_46))]; exact hP⟩, hS.F ht9⟩) hS.2.2 dX1_move_158
        · refine lv_iconst (v := nI 1) hx hb dX1_move_138 (by decide) ?_
          refine lv_goto (tgt := 143) hx hb dX1_move_139 (by decide) ?_
          refine lv_istore (lv' := [(8, .int (nI 1)), (7, .int (nI 1)), (6, .int (nI (wy true (lw mv sz 2) (mk 1)))), (5, .int (nI (wy (lo io sz 0 || !se 0) (lw mv sz 0) (mk 0)))), (4, .int (nI (wy (lo io sz 3 || !se 5) (lw mv sz 3) (mk 5)))), (3, .int (nI (wy (lo io sz 0 || lo io sz 2) (lw mv sz 0) (lw mv sz 2)))), (2, .int (nI 1)), (0, .ref k0), (1, .int (b2i false))]) hx hb dX1_move_143 hl (by decide) rfl (fun ls hl => ?_)
          refine lv_aload_n hx hb dX1_move_145 rfl (lv_at hl 7 rfl) ?_
          refine lv_iload_n hx hb dX1_move_146 rfl (lv_at hl 6 rfl) ?_
          refine lv_iload hx hb dX1_move_147 (lv_at hl 1 rfl) ?_
          refine lv_iload hx hb dX1_move_149 (lv_at hl 0 rfl) ?_
          have hFc := va_free (wc := WM k0 kv ko ks km kt kp kb cZ cD cI th mv io sz mk se pv pd op mw) hD hS hA [0, 1, 2, 3, 4, 5, 6, 7] rfl
          refine wr_calli (va_runV (As := [.int (b2i true), .int (b2i true), .int (b2i true)]) (rest := []) ⟨hx, hb, hml, hown, hts⟩ (c_X1_throwing l D k0 kv ko ks km kt kp kb cZ cD cI th mv io sz mk se pv pd op mw hsz s.heap.size true true true ) (cwV 3 hts gX1_move_X1_throwing rfl rfl rfl (by decide +kernel) ⟨Nat.le_of_ble_eq_true rfl, Nat.le_of_ble_eq_true rfl⟩) ⟨fun a U g mk q => ⟨q.1, q.2.1, q.2.2.1, va_K.moved (u := U) (U := U.calling g mk a) (Vm.Alike.refl U.vm) q.2.2.2.1, q.2.2.2.2⟩, va_recv hK hP (ci := 2) (q0 := 0) rfl rfl, fun U hU hW => ⟨rfl, by rw [hU], by rw [hU]; exact hP, va_K.moved hW.alike hK, hD.weaken (fun _ _ _ _ => trivial)⟩⟩ rfl rfl hl.1 rfl (lv_room (Nat.le_of_ble_eq_true rfl)) dX1_move_151 ⟨Nat.le_of_ble_eq_true rfl, Nat.le_of_ble_eq_true rfl⟩) hS hFc (fun r_48 H locs hr_48 hP _ _ hS => ?_)
          subst hr_48
          refine kt_i (y := b2i true) rfl ?_
          have hD : va_D A (WM k0 kv ko ks km kt kp kb cZ cD cI (thr true true true) mv io sz mk se pv pd op mw) := va_D_same (ws := WM k0 kv ko ks km kt kp kb cZ cD cI th mv io sz mk se pv pd op mw) rfl hD
          have hP : va_P D vwCl (WM k0 kv ko ks km kt kp kb cZ cD cI (thr true true true) mv io sz mk se pv pd op mw) H := hP
          refine kb_eq (tgt := 159) hx hb dX1_move_154 (by decide) (fun h => absurd h (by decide)) (fun _ => ?_)
          refine lv_iconst (v := nI 0) hx hb dX1_move_157 (by decide) ?_
          refine W.widen (k := 0) (n := 0) (Nat.le_of_ble_eq_true rfl) (Nat.le_of_ble_eq_true rfl) ?_
          exact W.iret (v := nI 0) hx hb hr (fun t9 ht9 hW9 => ⟨⟨_, rfl, by rw [tMs_of (A := true) (B := true) (C := true) (by simp [c_1]) (decide_eq_true c_42) (by rw [show (lo io sz 2 || !se 1) = true from by simp [c_39]]; exact decide_eq_true c_46)]; rfl, by rw [ht9, tMs_of (A := true) (B := true) (C := true) (by simp [c_1]) (decide_eq_true c_42) (by rw [show (lo io sz 2 || !se 1) = true from by simp [c_39]]; exact decide_eq_true c_46)]; exact hP⟩, hS.F ht9⟩) hS.2.2 dX1_move_158
    · refine lv_aload_n hx hb dX1_move_45 rfl (lv_at hl 4 rfl) ?_
      refine va_get (D := D) (ci := 2) (v := .ref kt) (C := RX1) (T := TX1) (N := 10) hx hb hts hinRX1 hown hK hP 0 rfl rfl 5 (by decide) hf_24 (fun _ h9 => h9) rfl dX1_move_46 ?_
      refine lv_iconst (v := nI 1) hx hb dX1_move_49 (by decide) ?_
      refine kn_zald hx hb hK hP 5 0 rfl rfl (by omega) (by decide) dX1_move_50 ?_
      refine kb_ne (tgt := 58) hx hb dX1_move_51 (by decide) (fun c_49 => ?_) (fun c_49 => ?_)
      · refine lv_iconst (v := nI 0) hx hb dX1_move_58 (by decide) ?_
        refine lv_aload_n hx hb dX1_move_59 rfl (lv_at hl 4 rfl) ?_
        refine lv_iconst (v := nI 2) hx hb dX1_move_60 (by decide) ?_
        refine rd_calld (va_runV (As := [.int (nI 2)]) (rest := [.int (nI 0)]) ⟨hx, hb, hml, hown, hts⟩ (c_X1_latestValue l D k0 kv ko ks km kt kp kb cZ cD cI th mv io sz mk se pv pd op mw hsz 2 (by omega)) (cwV 1 hts gX1_move_X1_latestValue rfl rfl rfl (by decide +kernel) ⟨Nat.le_of_ble_eq_true rfl, Nat.le_of_ble_eq_true rfl⟩) ⟨fun a U g mk q => ⟨q.1, q.2.1, va_K.moved (u := U) (U := U.calling g mk a) (Vm.Alike.refl U.vm) q.2.2⟩, va_recv hK hP (ci := 2) (q0 := 0) rfl rfl, fun U hU hW => ⟨rfl, by rw [hU]; exact hP, va_K.moved hW.alike hK⟩⟩ rfl rfl hl.1 rfl (lv_room (Nat.le_of_ble_eq_true rfl)) dX1_move_61 ⟨Nat.le_of_ble_eq_true rfl, Nat.le_of_ble_eq_true rfl⟩) (fun r_50 hr_50 => ?_)
        subst hr_50
        refine lv_aload_n hx hb dX1_move_64 rfl (lv_at hl 4 rfl) ?_
        refine va_get (D := D) (ci := 2) (v := .ref km) (C := RX1) (T := TX1) (N := 10) hx hb hts hinRX1 hown hK hP 0 rfl rfl 4 (by decide) hf_21 (fun _ h9 => h9) rfl dX1_move_65 ?_
        refine lv_iconst (v := nI 1) hx hb dX1_move_68 (by decide) ?_
        refine kn_dald hx hb hK hP 4 1 rfl rfl (by omega) (by decide) dX1_move_69 ?_
        refine rd_calli (va_runS (As := [.int (b2i false), .double (lw mv sz 2), .double (mk 1)]) (rest := []) ⟨hx, hb, hml, hown, hts⟩ (c_X1_way l false (lw mv sz 2) (mk 1) ) (va_cwS 3 hts gX1_move_X1_way rfl rfl rfl (by decide +kernel) ⟨Nat.le_of_ble_eq_true rfl, Nat.le_of_ble_eq_true rfl⟩) ⟨fun a U g mk q => q, fun U hU hW => ⟨rfl, trivial⟩⟩ rfl rfl hl.1 rfl (lv_room (Nat.le_of_ble_eq_true rfl)) dX1_move_70 ⟨Nat.le_of_ble_eq_true rfl, Nat.le_of_ble_eq_true rfl⟩) (fun r_51 hr_51 => ?_)
        subst hr_51
        refine lv_istore (lv' := [(6, .int (nI (wy false (lw mv sz 2) (mk 1)))), (5, .int (nI (wy (lo io sz 0 || !se 0) (lw mv sz 0) (mk 0)))), (4, .int (nI (wy (lo io sz 3 || !se 5) (lw mv sz 3) (mk 5)))), (3, .int (nI (wy (lo io sz 0 || lo io sz 2) (lw mv sz 0) (lw mv sz 2)))), (2, .int (nI 1)), (0, .ref k0), (1, .int (b2i false))]) hx hb dX1_move_73 hl (by decide) rfl (fun ls hl => ?_)
        refine lv_iload_n hx hb dX1_move_75 rfl (lv_at hl 6 rfl) ?_
        refine kb_eq (tgt := 92) hx hb dX1_move_76 (by decide) (fun _ => ?_) (fun h => absurd h (by decide))
        refine lv_iload hx hb dX1_move_92 (lv_at hl 1 rfl) ?_
        refine lv_iconst (v := nI 4) hx hb dX1_move_94 (by decide) ?_
        refine kn_icmp_ne (tgt := 102) hx hb (Nat.lt_trans (wy_lt _ _ _) (by decide)) (by decide) dX1_move_95 (by decide) (fun c_52 => ?_) (fun c_52 => ?_)
        · refine lv_iconst (v := nI 0) hx hb dX1_move_102 (by decide) ?_
          refine lv_istore (lv' := [(7, .int (nI 0)), (6, .int (nI (wy false (lw mv sz 2) (mk 1)))), (5, .int (nI (wy (lo io sz 0 || !se 0) (lw mv sz 0) (mk 0)))), (4, .int (nI (wy (lo io sz 3 || !se 5) (lw mv sz 3) (mk 5)))), (3, .int (nI (wy (lo io sz 0 || lo io sz 2) (lw mv sz 0) (lw mv sz 2)))), (2, .int (nI 1)), (0, .ref k0), (1, .int (b2i false))]) hx hb dX1_move_103 hl (by decide) rfl (fun ls hl => ?_)
          refine lv_iload_n hx hb dX1_move_105 rfl (lv_at hl 7 rfl) ?_
          refine kb_eq (tgt := 132) hx hb dX1_move_106 (by decide) (fun _ => ?_) (fun h => absurd h (by decide))
          refine lv_iload hx hb dX1_move_132 (lv_at hl 1 rfl) ?_
          refine lv_iconst (v := nI 4) hx hb dX1_move_134 (by decide) ?_
          refine kn_icmp_ge (tgt := 142) hx hb (Nat.lt_trans (wy_lt _ _ _) (by decide)) (by decide) dX1_move_135 (by decide) (fun c_53 => ?_) (fun c_53 => ?_)
          · refine lv_iconst (v := nI 0) hx hb dX1_move_142 (by decide) ?_
            refine lv_istore (lv' := [(8, .int (nI 0)), (7, .int (nI 0)), (6, .int (nI (wy false (lw mv sz 2) (mk 1)))), (5, .int (nI (wy (lo io sz 0 || !se 0) (lw mv sz 0) (mk 0)))), (4, .int (nI (wy (lo io sz 3 || !se 5) (lw mv sz 3) (mk 5)))), (3, .int (nI (wy (lo io sz 0 || lo io sz 2) (lw mv sz 0) (lw mv sz 2)))), (2, .int (nI 1)), (0, .ref k0), (1, .int (b2i false))]) hx hb dX1_move_143 hl (by decide) rfl (fun ls hl => ?_)
            refine lv_aload_n hx hb dX1_move_145 rfl (lv_at hl 7 rfl) ?_
            refine lv_iload_n hx hb dX1_move_146 rfl (lv_at hl 6 rfl) ?_
            refine lv_iload hx hb dX1_move_147 (lv_at hl 1 rfl) ?_
            refine lv_iload hx hb dX1_move_149 (lv_at hl 0 rfl) ?_
            have hFc := va_free (wc := WM k0 kv ko ks km kt kp kb cZ cD cI th mv io sz mk se pv pd op mw) hD hS hA [0, 1, 2, 3, 4, 5, 6, 7] rfl
            refine wr_calli (va_runV (As := [.int (b2i true), .int (b2i false), .int (b2i false)]) (rest := []) ⟨hx, hb, hml, hown, hts⟩ (c_X1_throwing l D k0 kv ko ks km kt kp kb cZ cD cI th mv io sz mk se pv pd op mw hsz s.heap.size true false false ) (cwV 3 hts gX1_move_X1_throwing rfl rfl rfl (by decide +kernel) ⟨Nat.le_of_ble_eq_true rfl, Nat.le_of_ble_eq_true rfl⟩) ⟨fun a U g mk q => ⟨q.1, q.2.1, q.2.2.1, va_K.moved (u := U) (U := U.calling g mk a) (Vm.Alike.refl U.vm) q.2.2.2.1, q.2.2.2.2⟩, va_recv hK hP (ci := 2) (q0 := 0) rfl rfl, fun U hU hW => ⟨rfl, by rw [hU], by rw [hU]; exact hP, va_K.moved hW.alike hK, hD.weaken (fun _ _ _ _ => trivial)⟩⟩ rfl rfl hl.1 rfl (lv_room (Nat.le_of_ble_eq_true rfl)) dX1_move_151 ⟨Nat.le_of_ble_eq_true rfl, Nat.le_of_ble_eq_true rfl⟩) hS hFc (fun r_54 H locs hr_54 hP _ _ hS => ?_)
            subst hr_54
            refine kt_i (y := b2i true) rfl ?_
            have hD : va_D A (WM k0 kv ko ks km kt kp kb cZ cD cI (thr true false false) mv io sz mk se pv pd op mw) := va_D_same (ws := WM k0 kv ko ks km kt kp kb cZ cD cI th mv io sz mk se pv pd op mw) rfl hD
            have hP : va_P D vwCl (WM k0 kv ko ks km kt kp kb cZ cD cI (thr true false false) mv io sz mk se pv pd op mw) H := hP
            refine kb_eq (tgt := 159) hx hb dX1_move_154 (by decide) (fun h => absurd h (by decide)) (fun _ => ?_)
            refine lv_iconst (v := nI 0) hx hb dX1_move_157 (by decide) ?_
            refine W.widen (k := 0) (n := 0) (Nat.le_of_ble_eq_true rfl) (Nat.le_of_ble_eq_true rfl) ?_
            exact W.iret (v := nI 0) hx hb hr (fun t9 ht9 hW9 => ⟨⟨_, rfl, by rw [tMs_of (A := true) (B := false) (C := false) (by simp [c_1]) (decide_eq_false c_52) (by rw [show (lo io sz 2 || !se 1) = false from by simp [c_39, c_49]]; exact decide_eq_false (Nat.not_lt.mpr c_53))]; rfl, by rw [ht9, tMs_of (A := true) (B := false) (C := false) (by simp [c_1]) (decide_eq_false c_52) (by rw [show (lo io sz 2 || !se 1) = false from by simp [c_39, c_49]]; exact decide_eq_false (Nat.not_lt.mpr c_53))]; exact hP⟩, hS.F ht9⟩) hS.2.2 dX1_move_158
          · refine lv_iconst (v := nI 1) hx hb dX1_move_138 (by decide) ?_
            refine lv_goto (tgt := 143) hx hb dX1_move_139 (by decide) ?_
            refine lv_istore (lv' := [(8, .int (nI 1)), (7, .int (nI 0)), (6, .int (nI (wy false (lw mv sz 2) (mk 1)))), (5, .int (nI (wy (lo io sz 0 || !se 0) (lw mv sz 0) (mk 0)))), (4, .int (nI (wy (lo io sz 3 || !se 5) (lw mv sz 3) (mk 5)))), (3, .int (nI (wy (lo io sz 0 || lo io sz 2) (lw mv sz 0) (lw mv sz 2)))), (2, .int (nI 1)), (0, .ref k0), (1, .int (b2i false))]) hx hb dX1_move_143 hl (by decide) rfl (fun ls hl => ?_)
            refine lv_aload_n hx hb dX1_move_145 rfl (lv_at hl 7 rfl) ?_
            refine lv_iload_n hx hb dX1_move_146 rfl (lv_at hl 6 rfl) ?_
            refine lv_iload hx hb dX1_move_147 (lv_at hl 1 rfl) ?_
            refine lv_iload hx hb dX1_move_149 (lv_at hl 0 rfl) ?_
            have hFc := va_free (wc := WM k0 kv ko ks km kt kp kb cZ cD cI th mv io sz mk se pv pd op mw) hD hS hA [0, 1, 2, 3, 4, 5, 6, 7] rfl
            refine wr_calli (va_runV (As := [.int (b2i true), .int (b2i false), .int (b2i true)]) (rest := []) ⟨hx, hb, hml, hown, hts⟩ (c_X1_throwing l D k0 kv ko ks km kt kp kb cZ cD cI th mv io sz mk se pv pd op mw hsz s.heap.size true false true ) (cwV 3 hts gX1_move_X1_throwing rfl rfl rfl (by decide +kernel) ⟨Nat.le_of_ble_eq_true rfl, Nat.le_of_ble_eq_true rfl⟩) ⟨fun a U g mk q => ⟨q.1, q.2.1, q.2.2.1, va_K.moved (u := U) (U := U.calling g mk a) (Vm.Alike.refl U.vm) q.2.2.2.1, q.2.2.2.2⟩, va_recv hK hP (ci := 2) (q0 := 0) rfl rfl, fun U hU hW => ⟨rfl, by rw [hU], by rw [hU]; exact hP, va_K.moved hW.alike hK, hD.weaken (fun _ _ _ _ => trivial)⟩⟩ rfl rfl hl.1 rfl (lv_room (Nat.le_of_ble_eq_true rfl)) dX1_move_151 ⟨Nat.le_of_ble_eq_true rfl, Nat.le_of_ble_eq_true rfl⟩) hS hFc (fun r_55 H locs hr_55 hP _ _ hS => ?_)
            subst hr_55
            refine kt_i (y := b2i true) rfl ?_
            have hD : va_D A (WM k0 kv ko ks km kt kp kb cZ cD cI (thr true false true) mv io sz mk se pv pd op mw) := va_D_same (ws := WM k0 kv ko ks km kt kp kb cZ cD cI th mv io sz mk se pv pd op mw) rfl hD
            have hP : va_P D vwCl (WM k0 kv ko ks km kt kp kb cZ cD cI (thr true false true) mv io sz mk se pv pd op mw) H := hP
            refine kb_eq (tgt := 159) hx hb dX1_move_154 (by decide) (fun h => absurd h (by decide)) (fun _ => ?_)
            refine lv_iconst (v := nI 0) hx hb dX1_move_157 (by decide) ?_
            refine W.widen (k := 0) (n := 0) (Nat.le_of_ble_eq_true rfl) (Nat.le_of_ble_eq_true rfl) ?_
            exact W.iret (v := nI 0) hx hb hr (fun t9 ht9 hW9 => ⟨⟨_, rfl, by rw [tMs_of (A := true) (B := false) (C := true) (by simp [c_1]) (decide_eq_false c_52) (by rw [show (lo io sz 2 || !se 1) = false from by simp [c_39, c_49]]; exact decide_eq_true c_53)]; rfl, by rw [ht9, tMs_of (A := true) (B := false) (C := true) (by simp [c_1]) (decide_eq_false c_52) (by rw [show (lo io sz 2 || !se 1) = false from by simp [c_39, c_49]]; exact decide_eq_true c_53)]; exact hP⟩, hS.F ht9⟩) hS.2.2 dX1_move_158
        · refine lv_iconst (v := nI 1) hx hb dX1_move_98 (by decide) ?_
          refine lv_goto (tgt := 103) hx hb dX1_move_99 (by decide) ?_
          refine lv_istore (lv' := [(7, .int (nI 1)), (6, .int (nI (wy false (lw mv sz 2) (mk 1)))), (5, .int (nI (wy (lo io sz 0 || !se 0) (lw mv sz 0) (mk 0)))), (4, .int (nI (wy (lo io sz 3 || !se 5) (lw mv sz 3) (mk 5)))), (3, .int (nI (wy (lo io sz 0 || lo io sz 2) (lw mv sz 0) (lw mv sz 2)))), (2, .int (nI 1)), (0, .ref k0), (1, .int (b2i false))]) hx hb dX1_move_103 hl (by decide) rfl (fun ls hl => ?_)
          refine lv_iload_n hx hb dX1_move_105 rfl (lv_at hl 7 rfl) ?_
          refine kb_eq (tgt := 132) hx hb dX1_move_106 (by decide) (fun _ => ?_) (fun h => absurd h (by decide))
          refine lv_iload hx hb dX1_move_132 (lv_at hl 1 rfl) ?_
          refine lv_iconst (v := nI 4) hx hb dX1_move_134 (by decide) ?_
          refine kn_icmp_ge (tgt := 142) hx hb (Nat.lt_trans (wy_lt _ _ _) (by decide)) (by decide) dX1_move_135 (by decide) (fun c_56 => ?_) (fun c_56 => ?_)
          · refine lv_iconst (v := nI 0) hx hb dX1_move_142 (by decide) ?_
            refine lv_istore (lv' := [(8, .int (nI 0)), (7, .int (nI 1)), (6, .int (nI (wy false (lw mv sz 2) (mk 1)))), (5, .int (nI (wy (lo io sz 0 || !se 0) (lw mv sz 0) (mk 0)))), (4, .int (nI (wy (lo io sz 3 || !se 5) (lw mv sz 3) (mk 5)))), (3, .int (nI (wy (lo io sz 0 || lo io sz 2) (lw mv sz 0) (lw mv sz 2)))), (2, .int (nI 1)), (0, .ref k0), (1, .int (b2i false))]) hx hb dX1_move_143 hl (by decide) rfl (fun ls hl => ?_)
            refine lv_aload_n hx hb dX1_move_145 rfl (lv_at hl 7 rfl) ?_
            refine lv_iload_n hx hb dX1_move_146 rfl (lv_at hl 6 rfl) ?_
            refine lv_iload hx hb dX1_move_147 (lv_at hl 1 rfl) ?_
            refine lv_iload hx hb dX1_move_149 (lv_at hl 0 rfl) ?_
            have hFc := va_free (wc := WM k0 kv ko ks km kt kp kb cZ cD cI th mv io sz mk se pv pd op mw) hD hS hA [0, 1, 2, 3, 4, 5, 6, 7] rfl
            refine wr_calli (va_runV (As := [.int (b2i true), .int (b2i true), .int (b2i false)]) (rest := []) ⟨hx, hb, hml, hown, hts⟩ (c_X1_throwing l D k0 kv ko ks km kt kp kb cZ cD cI th mv io sz mk se pv pd op mw hsz s.heap.size true true false ) (cwV 3 hts gX1_move_X1_throwing rfl rfl rfl (by decide +kernel) ⟨Nat.le_of_ble_eq_true rfl, Nat.le_of_ble_eq_true rfl⟩) ⟨fun a U g mk q => ⟨q.1, q.2.1, q.2.2.1, va_K.moved (u := U) (U := U.calling g mk a) (Vm.Alike.refl U.vm) q.2.2.2.1, q.2.2.2.2⟩, va_recv hK hP (ci := 2) (q0 := 0) rfl rfl, fun U hU hW => ⟨rfl, by rw [hU], by rw [hU]; exact hP, va_K.moved hW.alike hK, hD.weaken (fun _ _ _ _ => trivial)⟩⟩ rfl rfl hl.1 rfl (lv_room (Nat.le_of_ble_eq_true rfl)) dX1_move_151 ⟨Nat.le_of_ble_eq_true rfl, Nat.le_of_ble_eq_true rfl⟩) hS hFc (fun r_57 H locs hr_57 hP _ _ hS => ?_)
            subst hr_57
            refine kt_i (y := b2i true) rfl ?_
            have hD : va_D A (WM k0 kv ko ks km kt kp kb cZ cD cI (thr true true false) mv io sz mk se pv pd op mw) := va_D_same (ws := WM k0 kv ko ks km kt kp kb cZ cD cI th mv io sz mk se pv pd op mw) rfl hD
            have hP : va_P D vwCl (WM k0 kv ko ks km kt kp kb cZ cD cI (thr true true false) mv io sz mk se pv pd op mw) H := hP
            refine kb_eq (tgt := 159) hx hb dX1_move_154 (by decide) (fun h => absurd h (by decide)) (fun _ => ?_)
            refine lv_iconst (v := nI 0) hx hb dX1_move_157 (by decide) ?_
            refine W.widen (k := 0) (n := 0) (Nat.le_of_ble_eq_true rfl) (Nat.le_of_ble_eq_true rfl) ?_
            exact W.iret (v := nI 0) hx hb hr (fun t9 ht9 hW9 => ⟨⟨_, rfl, by rw [tMs_of (A := true) (B := true) (C := false) (by simp [c_1]) (decide_eq_true c_52) (by rw [show (lo io sz 2 || !se 1) = false from by simp [c_39, c_49]]; exact decide_eq_false (Nat.not_lt.mpr c_56))]; rfl, by rw [ht9, tMs_of (A := true) (B := true) (C := false) (by simp [c_1]) (decide_eq_true c_52) (by rw [show (lo io sz 2 || !se 1) = false from by simp [c_39, c_49]]; exact decide_eq_false (Nat.not_lt.mpr c_56))]; exact hP⟩, hS.F ht9⟩) hS.2.2 dX1_move_158
          · refine lv_iconst (v := nI 1) hx hb dX1_move_138 (by decide) ?_
            refine lv_goto (tgt := 143) hx hb dX1_move_139 (by decide) ?_
            refine lv_istore (lv' := [(8, .int (nI 1)), (7, .int (nI 1)), (6, .int (nI (wy false (lw mv sz 2) (mk 1)))), (5, .int (nI (wy (lo io sz 0 || !se 0) (lw mv sz 0) (mk 0)))), (4, .int (nI (wy (lo io sz 3 || !se 5) (lw mv sz 3) (mk 5)))), (3, .int (nI (wy (lo io sz 0 || lo io sz 2) (lw mv sz 0) (lw mv sz 2)))), (2, .int (nI 1)), (0, .ref k0), (1, .int (b2i false))]) hx hb dX1_move_143 hl (by decide) rfl (fun ls hl => ?_)
            refine lv_aload_n hx hb dX1_move_145 rfl (lv_at hl 7 rfl) ?_
            refine lv_iload_n hx hb dX1_move_146 rfl (lv_at hl 6 rfl) ?_
            refine lv_iload hx hb dX1_move_147 (lv_at hl 1 rfl) ?_
            refine lv_iload hx hb dX1_move_149 (lv_at hl 0 rfl) ?_
            have hFc := va_free (wc := WM k0 kv ko ks km kt kp kb cZ cD cI th mv io sz mk se pv pd op mw) hD hS hA [0, 1, 2, 3, 4, 5, 6, 7] rfl
            refine wr_calli (va_runV (As := [.int (b2i true), .int (b2i true), .int (b2i true)]) (rest := []) ⟨hx, hb, hml, hown, hts⟩ (c_X1_throwing l D k0 kv ko ks km kt kp kb cZ cD cI th mv io sz mk se pv pd op mw hsz s.heap.size true true true ) (cwV 3 hts gX1_move_X1_throwing rfl rfl rfl (by decide +kernel) ⟨Nat.le_of_ble_eq_true rfl, Nat.le_of_ble_eq_true rfl⟩) ⟨fun a U g mk q => ⟨q.1, q.2.1, q.2.2.1, va_K.moved (u := U) (U := U.calling g mk a) (Vm.Alike.refl U.vm) q.2.2.2.1, q.2.2.2.2⟩, va_recv hK hP (ci := 2) (q0 := 0) rfl rfl, fun U hU hW => ⟨rfl, by rw [hU], by rw [hU]; exact hP, va_K.moved hW.alike hK, hD.weaken (fun _ _ _ _ => trivial)⟩⟩ rfl rfl hl.1 rfl (lv_room (Nat.le_of_ble_eq_true rfl)) dX1_move_151 ⟨Nat.le_of_ble_eq_true rfl, Nat.le_of_ble_eq_true rfl⟩) hS hFc (fun r_58 H locs hr_58 hP _ _ hS => ?_)
            subst hr_58
            refine kt_i (y := b2i true) rfl ?_
            have hD : va_D A (WM k0 kv ko ks km kt kp kb cZ cD cI (thr true true true) mv io sz mk se pv pd op mw) := va_D_same (ws := WM k0 kv ko ks km kt kp kb cZ cD cI th mv io sz mk se pv pd op mw) rfl hD
            have hP : va_P D vwCl (WM k0 kv ko ks km kt kp kb cZ cD cI (thr true true true) mv io sz mk se pv pd op mw) H := hP
            refine kb_eq (tgt := 159) hx hb dX1_move_154 (by decide) (fun h => absurd h (by decide)) (fun _ => ?_)
            refine lv_iconst (v := nI 0) hx hb dX1_move_157 (by decide) ?_
            refine W.widen (k := 0) (n := 0) (Nat.le_of_ble_eq_true rfl) (Nat.le_of_ble_eq_true rfl) ?_
            exact W.iret (v := nI 0) hx hb hr (fun t9 ht9 hW9 => ⟨⟨_, rfl, by rw [tMs_of (A := true) (B := true) (C := true) (by simp [c_1]) (decide_eq_true c_52) (by rw [show (lo io sz 2 || !se 1) = false from by simp [c_39, c_49]]; exact decide_eq_true c_56)]; rfl, by rw [ht9, tMs_of (A := true) (B := true) (C := true) (by simp [c_1]) (decide_eq_true c_52) (by rw [show (lo io sz 2 || !se 1) = false from by simp [c_39, c_49]]; exact decide_eq_true c_56)]; exact hP⟩, hS.F ht9⟩) hS.2.2 dX1_move_158
      · refine lv_iconst (v := nI 1) hx hb dX1_move_54 (by decide) ?_
        refine lv_goto (tgt := 59) hx hb dX1_move_55 (by decide) ?_
        refine lv_aload_n hx hb dX1_move_59 rfl (lv_at hl 4 rfl) ?_
        refine lv_iconst (v := nI 2) hx hb dX1_move_60 (by decide) ?_
        refine rd_calld (va_runV (As := [.int (nI 2)]) (rest := [.int (nI 1)]) ⟨hx, hb, hml, hown, hts⟩ (c_X1_latestValue l D k0 kv ko ks km kt kp kb cZ cD cI th mv io sz mk se pv pd op mw hsz 2 (by omega)) (cwV 1 hts gX1_move_X1_latestValue rfl rfl rfl (by decide +kernel) ⟨Nat.le_of_ble_eq_true rfl, Nat.le_of_ble_eq_true rfl⟩) ⟨fun a U g mk q => ⟨q.1, q.2.1, va_K.moved (u := U) (U := U.calling g mk a) (Vm.Alike.refl U.vm) q.2.2⟩, va_recv hK hP (ci := 2) (q0 := 0) rfl rfl, fun U hU hW => ⟨rfl, by rw [hU]; exact hP, va_K.moved hW.alike hK⟩⟩ rfl rfl hl.1 rfl (lv_room (Nat.le_of_ble_eq_true rfl)) dX1_move_61 ⟨Nat.le_of_ble_eq_true rfl, Nat.le_of_ble_eq_true rfl⟩) (fun r_59 hr_59 => ?_)
        subst hr_59
        refine lv_aload_n hx hb dX1_move_64 rfl (lv_at hl 4 rfl) ?_
        refine va_get (D := D) (ci := 2) (v := .ref km) (C := RX1) (T := TX1) (N := 10) hx hb hts hinRX1 hown hK hP 0 rfl rfl 4 (by decide) hf_21 (fun _ h9 => h9) rfl dX1_move_65 ?_
        refine lv_iconst (v := nI 1) hx hb dX1_move_68 (by decide) ?_
        refine kn_dald hx hb hK hP 4 1 rfl rfl (by omega) (by decide) dX1_move_69 ?_
        refine rd_calli (va_runS (As := [.int (b2i true), .double (lw mv sz 2), .double (mk 1)]) (rest := []) ⟨hx, hb, hml, hown, hts⟩ (c_X1_way l true (lw mv sz 2) (mk 1) ) (va_cwS 3 hts gX1_move_X1_way rfl rfl rfl (by decide +kernel) ⟨Nat.le_of_ble_eq_true rfl, Nat.le_of_ble_eq_true rfl⟩) ⟨fun a U g mk q => q, fun U hU hW => ⟨rfl, trivial⟩⟩ rfl rfl hl.1 rfl (lv_room (Nat.le_of_ble_eq_true rfl)) dX1_move_70 ⟨Nat.le_of_ble_eq_true rfl, Nat.le_of_ble_eq_true rfl⟩) (fun r_60 hr_60 => ?_)
        subst hr_60
        refine lv_istore (lv' := [(6, .int (nI (wy true (lw mv sz 2) (mk 1)))), (5, .int (nI (wy (lo io sz 0 || !se 0) (lw mv sz 0) (mk 0)))), (4, .int (nI (wy (lo io sz 3 || !se 5) (lw mv sz 3) (mk 5)))), (3, .int (nI (wy (lo io sz 0 || lo io sz 2) (lw mv sz 0) (lw mv sz 2)))), (2, .int (nI 1)), (0, .ref k0), (1, .int (b2i false))]) hx hb dX1_move_73 hl (by decide) rfl (fun ls hl => ?_)
        refine lv_iload_n hx hb dX1_move_75 rfl (lv_at hl 6 rfl) ?_
        refine kb_eq (tgt := 92) hx hb dX1_move_76 (by decide) (fun _ => ?_) (fun h => absurd h (by decide))
        refine lv_iload hx hb dX1_move_92 (lv_at hl 1 rfl) ?_
        refine lv_iconst (v := nI 4) hx hb dX1_move_94 (by decide) ?_
        refine kn_icmp_ne (tgt := 102) hx hb (Nat.lt_trans (wy_lt _ _ _) (by decide)) (by decide) dX1_move_95 (by decide) (fun c_61 => ?_) (fun c_61 => ?_)
        · refine lv_iconst (v := nI 0) hx hb dX1_move_102 (by decide) ?_
          refine lv_istore (lv' := [(7, .int (nI 0)), (6, .int (nI (wy true (lw mv sz 2) (mk 1)))), (5, .int (nI (wy (lo io sz 0 || !se 0) (lw mv sz 0) (mk 0)))), (4, .int (nI (wy (lo io sz 3 || !se 5) (lw mv sz 3) (mk 5)))), (3, .int (nI (wy (lo io sz 0 || lo io sz 2) (lw mv sz 0) (lw mv sz 2)))), (2, .int (nI 1)), (0, .ref k0), (1, .int (b2i false))]) hx hb dX1_move_103 hl (by decide) rfl (fun ls hl => ?_)
          refine lv_iload_n hx hb dX1_move_105 rfl (lv_at hl 7 rfl) ?_
          refine kb_eq (tgt := 132) hx hb dX1_move_106 (by decide) (fun _ => ?_) (fun h => absurd h (by decide))
          refine lv_iload hx hb dX1_move_132 (lv_at hl 1 rfl) ?_
          refine lv_iconst (v := nI 4) hx hb dX1_move_134 (by decide) ?_
          refine kn_icmp_ge (tgt := 142) hx hb (Nat.lt_trans (wy_lt _ _ _) (by decide)) (by decide) dX1_move_135 (by decide) (fun c_62 => ?_) (fun c_62 => ?_)
          · refine lv_iconst (v := nI 0) hx hb dX1_move_142 (by decide) ?_
            refine lv_istore (lv' := [(8, .int (nI 0)), (7, .int (nI 0)), (6, .int (nI (wy true (lw mv sz 2) (mk 1)))), (5, .int (nI (wy (lo io sz 0 || !se 0) (lw mv sz 0) (mk 0)))), (4, .int (nI (wy (lo io sz 3 || !se 5) (lw mv sz 3) (mk 5)))), (3, .int (nI (wy (lo io sz 0 || lo io sz 2) (lw mv sz 0) (lw mv sz 2)))), (2, .int (nI 1)), (0, .ref k0), (1, .int (b2i false))]) hx hb dX1_move_143 hl (by decide) rfl (fun ls hl => ?_)
            refine lv_aload_n hx hb dX1_move_145 rfl (lv_at hl 7 rfl) ?_
            refine lv_iload_n hx hb dX1_move_146 rfl (lv_at hl 6 rfl) ?_
            refine lv_iload hx hb dX1_move_147 (lv_at hl 1 rfl) ?_
            refine lv_iload hx hb dX1_move_149 (lv_at hl 0 rfl) ?_
            have hFc := va_free (wc := WM k0 kv ko ks km kt kp kb cZ cD cI th mv io sz mk se pv pd op mw) hD hS hA [0, 1, 2, 3, 4, 5, 6, 7] rfl
            refine wr_calli (va_runV (As := [.int (b2i true), .int (b2i false), .int (b2i false)]) (rest := []) ⟨hx, hb, hml, hown, hts⟩ (c_X1_throwing l D k0 kv ko ks km kt kp kb cZ cD cI th mv io sz mk se pv pd op mw hsz s.heap.size true false false ) (cwV 3 hts gX1_move_X1_throwing rfl rfl rfl (by decide +kernel) ⟨Nat.le_of_ble_eq_true rfl, Nat.le_of_ble_eq_true rfl⟩) ⟨fun a U g mk q => ⟨q.1, q.2.1, q.2.2.1, va_K.moved (u := U) (U := U.calling g mk a) (Vm.Alike.refl U.vm) q.2.2.2.1, q.2.2.2.2⟩, va_recv hK hP (ci := 2) (q0 := 0) rfl rfl, fun U hU hW => ⟨rfl, by rw [hU], by rw [hU]; exact hP, va_K.moved hW.alike hK, hD.weaken (fun _ _ _ _ => trivial)⟩⟩ rfl rfl hl.1 rfl (lv_room (Nat.le_of_ble_eq_true rfl)) dX1_move_151 ⟨Nat.le_of_ble_eq_true rfl, Nat.le_of_ble_eq_true rfl⟩) hS hFc (fun r_63 H locs hr_63 hP _ _ hS => ?_)
            subst hr_63
            refine kt_i (y := b2i true) rfl ?_
            have hD : va_D A (WM k0 kv ko ks km kt kp kb cZ cD cI (thr true false false) mv io sz mk se pv pd op mw) := va_D_same (ws := WM k0 kv ko ks km kt kp kb cZ cD cI th mv io sz mk se pv pd op mw) rfl hD
            have hP : va_P D vwCl (WM k0 kv ko ks km kt kp kb cZ cD cI (thr true false false) mv io sz mk se pv pd op mw) H := hP
            refine kb_eq (tgt := 159) hx hb dX1_move_154 (by decide) (fun h => absurd h (by decide)) (fun _ => ?_)
            refine lv_iconst (v := nI 0) hx hb dX1_move_157 (by decide) ?_
            refine W.widen (k := 0) (n := 0) (Nat.le_of_ble_eq_true rfl) (Nat.le_of_ble_eq_true rfl) ?_
            exact W.iret (v := nI 0) hx hb hr (fun t9 ht9 hW9 => ⟨⟨_, rfl, by rw [tMs_of (A := true) (B := false) (C := false) (by simp [c_1]) (decide_eq_false c_61) (by rw [show (lo io sz 2 || !se 1) = true from by simp [c_39, c_49]]; exact decide_eq_false (Nat.not_lt.mpr c_62))]; rfl, by rw [ht9, tMs_of (A := true) (B := false) (C := false) (by simp [c_1]) (decide_eq_false c_61) (by rw [show (lo io sz 2 || !se 1) = true from by simp [c_39, c_49]]; exact decide_eq_false (Nat.not_lt.mpr c_62))]; exact hP⟩, hS.F ht9⟩) hS.2.2 dX1_move_158
          · refine lv_iconst (v := nI 1) hx hb dX1_move_138 (by decide) ?_
            refine lv_goto (tgt := 143) hx hb dX1_move_139 (by decide) ?_
            refine lv_istore (lv' := [(8, .int (nI 1)), (7, .int (nI 0)), (6, .int (nI (wy true (lw mv sz 2) (mk 1)))), (5, .int (nI (wy (lo io sz 0 || !se 0) (lw mv sz 0) (mk 0)))), (4, .int (nI (wy (lo io sz 3 || !se 5) (lw mv sz 3) (mk 5)))), (3, .int (nI (wy (lo io sz 0 || lo io sz 2) (lw mv sz 0) (lw mv sz 2)))), (2, .int (nI 1)), (0, .ref k0), (1, .int (b2i false))]) hx hb dX1_move_143 hl (by decide) rfl (fun ls hl => ?_)
            refine lv_aload_n hx hb dX1_move_145 rfl (lv_at hl 7 rfl) ?_
            refine lv_iload_n hx hb dX1_move_146 rfl (lv_at hl 6 rfl) ?_
            refine lv_iload hx hb dX1_move_147 (lv_at hl 1 rfl) ?_
            refine lv_iload hx hb dX1_move_149 (lv_at hl 0 rfl) ?_
            have hFc := va_free (wc := WM k0 kv ko ks km kt kp kb cZ cD cI th mv io sz mk se pv pd op mw) hD hS hA [0, 1, 2, 3, 4, 5, 6, 7] rfl
            refine wr_calli (va_runV (As := [.int (b2i true), .int (b2i false), .int (b2i true)]) (rest := []) ⟨hx, hb, hml, hown, hts⟩ (c_X1_throwing l D k0 kv ko ks km kt kp kb cZ cD cI th mv io sz mk se pv pd op mw hsz s.heap.size true false true ) (cwV 3 hts gX1_move_X1_throwing rfl rfl rfl (by decide +kernel) ⟨Nat.le_of_ble_eq_true rfl, Nat.le_of_ble_eq_true rfl⟩) ⟨fun a U g mk q => ⟨q.1, q.2.1, q.2.2.1, va_K.moved (u := U) (U := U.calling g mk a) (Vm.Alike.refl U.vm) q.2.2.2.1, q.2.2.2.2⟩, va_recv hK hP (ci := 2) (q0 := 0) rfl rfl, fun U hU hW => ⟨rfl, by rw [hU], by rw [hU]; exact hP, va_K.moved hW.alike hK, hD.weaken (fun _ _ _ _ => trivial)⟩⟩ rfl rfl hl.1 rfl (lv_room (Nat.le_of_ble_eq_true rfl)) dX1_move_151 ⟨Nat.le_of_ble_eq_true rfl, Nat.le_of_ble_eq_true rfl⟩) hS hFc (fun r_64 H locs hr_64 hP _ _ hS => ?_)
            subst hr_64
            refine kt_i (y := b2i true) rfl ?_
            have hD : va_D A (WM k0 kv ko ks km kt kp kb cZ cD cI (thr true false true) mv io sz mk se pv pd op mw) := va_D_same (ws := WM k0 kv ko ks km kt kp kb cZ cD cI th mv io sz mk se pv pd op mw) rfl hD
            have hP : va_P D vwCl (WM k0 kv ko ks km kt kp kb cZ cD cI (thr true false true) mv io sz mk se pv pd op mw) H := hP
            refine kb_eq (tgt := 159) hx hb dX1_move_154 (by decide) (fun h => absurd h (by decide)) (fun _ => ?_)
            refine lv_iconst (v := nI 0) hx hb dX1_move_157 (by decide) ?_
            refine W.widen (k := 0) (n := 0) (Nat.le_of_ble_eq_true rfl) (Nat.le_of_ble_eq_true rfl) ?_
            exact W.iret (v := nI 0) hx hb hr (fun t9 ht9 hW9 => ⟨⟨_, rfl, by rw [tMs_of (A := true) (B := false) (C := true) (by simp [c_1]) (decide_eq_false c_61) (by rw [show (lo io sz 2 || !se 1) = true from by simp [c_39, c_49]]; exact decide_eq_true c_62)]; rfl, by rw [ht9, tMs_of (A := true) (B := false) (C := true) (by simp [c_1]) (decide_eq_false c_61) (by rw [show (lo io sz 2 || !se 1) = true from by simp [c_39, c_49]]; exact decide_eq_true c_62)]; exact hP⟩, hS.F ht9⟩) hS.2.2 dX1_move_158
        · refine lv_iconst (v := nI 1) hx hb dX1_move_98 (by decide) ?_
          refine lv_goto (tgt := 103) hx hb dX1_move_99 (by decide) ?_
          refine lv_istore (lv' := [(7, .int (nI 1)), (6, .int (nI (wy true (lw mv sz 2) (mk 1)))), (5, .int (nI (wy (lo io sz 0 || !se 0) (lw mv sz 0) (mk 0)))), (4, .int (nI (wy (lo io sz 3 || !se 5) (lw mv sz 3) (mk 5)))), (3, .int (nI (wy (lo io sz 0 || lo io sz 2) (lw mv sz 0) (lw mv sz 2)))), (2, .int (nI 1)), (0, .ref k0), (1, .int (b2i false))]) hx hb dX1_move_103 hl (by decide) rfl (fun ls hl => ?_)
          refine lv_iload_n hx hb dX1_move_105 rfl (lv_at hl 7 rfl) ?_
          refine kb_eq (tgt := 132) hx hb dX1_move_106 (by decide) (fun _ => ?_) (fun h => absurd h (by decide))
          refine lv_iload hx hb dX1_move_132 (lv_at hl 1 rfl) ?_
          refine lv_iconst (v := nI 4) hx hb dX1_move_134 (by decide) ?_
          refine kn_icmp_ge (tgt := 142) hx hb (Nat.lt_trans (wy_lt _ _ _) (by decide)) (by decide) dX1_move_135 (by decide) (fun c_65 => ?_) (fun c_65 => ?_)
          · refine lv_iconst (v := nI 0) hx hb dX1_move_142 (by decide) ?_
            refine lv_istore (lv' := [(8, .int (nI 0)), (7, .int (nI 1)), (6, .int (nI (wy true (lw mv sz 2) (mk 1)))), (5, .int (nI (wy (lo io sz 0 || !se 0) (lw mv sz 0) (mk 0)))), (4, .int (nI (wy (lo io sz 3 || !se 5) (lw mv sz 3) (mk 5)))), (3, .int (nI (wy (lo io sz 0 || lo io sz 2) (lw mv sz 0) (lw mv sz 2)))), (2, .int (nI 1)), (0, .ref k0), (1, .int (b2i false))]) hx hb dX1_move_143 hl (by decide) rfl (fun ls hl => ?_)
            refine lv_aload_n hx hb dX1_move_145 rfl (lv_at hl 7 rfl) ?_
            refine lv_iload_n hx hb dX1_move_146 rfl (lv_at hl 6 rfl) ?_
            refine lv_iload hx hb dX1_move_147 (lv_at hl 1 rfl) ?_
            refine lv_iload hx hb dX1_move_149 (lv_at hl 0 rfl) ?_
            have hFc := va_free (wc := WM k0 kv ko ks km kt kp kb cZ cD cI th mv io sz mk se pv pd op mw) hD hS hA [0, 1, 2, 3, 4, 5, 6, 7] rfl
            refine wr_calli (va_runV (As := [.int (b2i true), .int (b2i true), .int (b2i false)]) (rest := []) ⟨hx, hb, hml, hown, hts⟩ (c_X1_throwing l D k0 kv ko ks km kt kp kb cZ cD cI th mv io sz mk se pv pd op mw hsz s.heap.size true true false ) (cwV 3 hts gX1_move_X1_throwing rfl rfl rfl (by decide +kernel) ⟨Nat.le_of_ble_eq_true rfl, Nat.le_of_ble_eq_true rfl⟩) ⟨fun a U g mk q => ⟨q.1, q.2.1, q.2.2.1, va_K.moved (u := U) (U := U.calling g mk a) (Vm.Alike.refl U.vm) q.2.2.2.1, q.2.2.2.2⟩, va_recv hK hP (ci := 2) (q0 := 0) rfl rfl, fun U hU hW => ⟨rfl, by rw [hU], by rw [hU]; exact hP, va_K.moved hW.alike hK, hD.weaken (fun _ _ _ _ => trivial)⟩⟩ rfl rfl hl.1 rfl (lv_room (Nat.le_of_ble_eq_true rfl)) dX1_move_151 ⟨Nat.le_of_ble_eq_true rfl, Nat.le_of_ble_eq_true rfl⟩) hS hFc (fun r_66 H locs hr_66 hP _ _ hS => ?_)
            subst hr_66
            refine kt_i (y := b2i true) rfl ?_
            have hD : va_D A (WM k0 kv ko ks km kt kp kb cZ cD cI (thr true true false) mv io sz mk se pv pd op mw) := va_D_same (ws := WM k0 kv ko ks km kt kp kb cZ cD cI th mv io sz mk se pv pd op mw) rfl hD
            have hP : va_P D vwCl (WM k0 kv ko ks km kt kp kb cZ cD cI (thr true true false) mv io sz mk se pv pd op mw) H := hP
            refine kb_eq (tgt := 159) hx hb dX1_move_154 (by decide) (fun h => absurd h (by decide)) (fun _ => ?_)
            refine lv_iconst (v := nI 0) hx hb dX1_move_157 (by decide) ?_
            refine W.widen (k := 0) (n := 0) (Nat.le_of_ble_eq_true rfl) (Nat.le_of_ble_eq_true rfl) ?_
            exact W.iret (v := nI 0) hx hb hr (fun t9 ht9 hW9 => ⟨⟨_, rfl, by rw [tMs_of (A := true) (B := true) (C := false) (by simp [c_1]) (decide_eq_true c_61) (by rw [show (lo io sz 2 || !se 1) = true from by simp [c_39, c_49]]; exact decide_eq_false (Nat.not_lt.mpr c_65))]; rfl, by rw [ht9, tMs_of (A := true) (B := true) (C := false) (by simp [c_1]) (decide_eq_true c_61) (by rw [show (lo io sz 2 || !se 1) = true from by simp [c_39, c_49]]; exact decide_eq_false (Nat.not_lt.mpr c_65))]; exact hP⟩, hS.F ht9⟩) hS.2.2 dX1_move_158
          · refine lv_iconst (v := nI 1) hx hb dX1_move_138 (by decide) ?_
            refine lv_goto (tgt := 143) hx hb dX1_move_139 (by decide) ?_
            refine lv_istore (lv' := [(8, .int (nI 1)), (7, .int (nI 1)), (6, .int (nI (wy true (lw mv sz 2) (mk 1)))), (5, .int (nI (wy (lo io sz 0 || !se 0) (lw mv sz 0) (mk 0)))), (4, .int (nI (wy (lo io sz 3 || !se 5) (lw mv sz 3) (mk 5)))), (3, .int (nI (wy (lo io sz 0 || lo io sz 2) (lw mv sz 0) (lw mv sz 2)))), (2, .int (nI 1)), (0, .ref k0), (1, .int (b2i false))]) hx hb dX1_move_143 hl (by decide) rfl (fun ls hl => ?_)
            refine lv_aload_n hx hb dX1_move_145 rfl (lv_at hl 7 rfl) ?_
            refine lv_iload_n hx hb dX1_move_146 rfl (lv_at hl 6 rfl) ?_
            refine lv_iload hx hb dX1_move_147 (lv_at hl 1 rfl) ?_
            refine lv_iload hx hb dX1_move_149 (lv_at hl 0 rfl) ?_
            have hFc := va_free (wc := WM k0 kv ko ks km kt kp kb cZ cD cI th mv io sz mk se pv pd op mw) hD hS hA [0, 1, 2, 3, 4, 5, 6, 7] rfl
            refine wr_calli (va_runV (As := [.int (b2i true), .int (b2i true), .int (b2i true)]) (rest := []) ⟨hx, hb, hml, hown, hts⟩ (c_X1_throwing l D k0 kv ko ks km kt kp kb cZ cD cI th mv io sz mk se pv pd op mw hsz s.heap.size true true true ) (cwV 3 hts gX1_move_X1_throwing rfl rfl rfl (by decide +kernel) ⟨Nat.le_of_ble_eq_true rfl, Nat.le_of_ble_eq_true rfl⟩) ⟨fun a U g mk q => ⟨q.1, q.2.1, q.2.2.1, va_K.moved (u := U) (U := U.calling g mk a) (Vm.Alike.refl U.vm) q.2.2.2.1, q.2.2.2.2⟩, va_recv hK hP (ci := 2) (q0 := 0) rfl rfl, fun U hU hW => ⟨rfl, by rw [hU], by rw [hU]; exact hP, va_K.moved hW.alike hK, hD.weaken (fun _ _ _ _ => trivial)⟩⟩ rfl rfl hl.1 rfl (lv_room (Nat.le_of_ble_eq_true rfl)) dX1_move_151 ⟨Nat.le_of_ble_eq_true rfl, Nat.le_of_ble_eq_true rfl⟩) hS hFc (fun r_67 H locs hr_67 hP _ _ hS => ?_)
            subst hr_67
            refine kt_i (y := b2i true) rfl ?_
            have hD : va_D A (WM k0 kv ko ks km kt kp kb cZ cD cI (thr true true true) mv io sz mk se pv pd op mw) := va_D_same (ws := WM k0 kv ko ks km kt kp kb cZ cD cI th mv io sz mk se pv pd op mw) rfl hD
            have hP : va_P D vwCl (WM k0 kv ko ks km kt kp kb cZ cD cI (thr true true true) mv io sz mk se pv pd op mw) H := hP
            refine kb_eq (tgt := 159) hx hb dX1_move_154 (by decide) (fun h => absurd h (by decide)) (fun _ => ?_)
            refine lv_iconst (v := nI 0) hx hb dX1_move_157 (by decide) ?_
            refine W.widen (k := 0) (n := 0) (Nat.le_of_ble_eq_true rfl) (Nat.le_of_ble_eq_true rfl) ?_
            exact W.iret (v := nI 0) hx hb hr (fun t9 ht9 hW9 => ⟨⟨_, rfl, by rw [tMs_of (A := true) (B := true) (C := true) (by simp [c_1]) (decide_eq_true c_61) (by rw [show (lo io sz 2 || !se 1) = true from by simp [c_39, c_49]]; exact decide_eq_true c_65)]; rfl, by rw [ht9, tMs_of (A := true) (B := true) (C := true) (by simp [c_1]) (decide_eq_true c_61) (by rw [show (lo io sz 2 || !se 1) = true from by simp [c_39, c_49]]; exact decide_eq_true c_65)]; exact hP⟩, hS.F ht9⟩) hS.2.2 dX1_move_158
