set_option maxHeartbeats 4000000 in
set_option maxRecDepth 100000 in
theorem c_X0_stripOf (l : Launch) (g : Nat) (w : Nat) : Met l yX0_stripOf wsX0_stripOf ({ frames := 0, cells := 0, slots := 0, locals := 0 }) (va_Pc [.int (nI g), .int (nI w)] (fun _ => True)) (rd_Qi (fun r => r = nI (g * 2 + w))) 0 0 (fun _ => False) := by
  refine Met.ofW (cc := cX0_stripOf) (maxL := 2) (ret := some .int) (by decide) rfl ?_
  intro p e s m args below meth c s₁ B hml hv
  obtain ⟨rfl, -⟩ := hv
  have hx := B.exec
  have hb := B.bytes
  have hr := B.returns
  have hts := atoms_spec (ws := wsX0_stripOf) B.pre
  have hown : s.vm.findClass RX0 = some m.cls := findClass_of_methodNamed B.named
  have hlocks := B.notSynchronized
  have hl := lv_entry ([.int (nI g), .int (nI w)]) (n := 2) (Nat.le_of_ble_eq_true rfl)
  rw [lg_entry_eq]
  generalize (lg_sl ([.int (nI g), .int (nI w)]) ++ List.replicate (2 - (lg_sl ([.int (nI g), .int (nI w)])).length) Slot.unset).toArray = ls at hl ⊢
  have hl : lv_has ls 2 [(0, .int (nI g)), (1, .int (nI w))] := hl
  refine lv_iload_n hx hb dX0_stripOf_0 rfl (lv_at hl 0 rfl) ?_
  refine lv_iconst (v := nI 2) hx hb dX0_stripOf_1 (by decide) ?_
  refine kn_imul hx hb dX0_stripOf_2 ?_
  refine lv_iload_n hx hb dX0_stripOf_3 rfl (lv_at hl 1 rfl) ?_
  refine kn_iadd hx hb dX0_stripOf_4 ?_
  exact W.iret (v := nI ((g * 2) + w)) hx hb hr (fun t9 ht9 hW9 => ⟨⟨_, rfl, congrArg nI (show (g * 2) + w = (g * 2 + w) from by first | rfl | (simp []; done))⟩, ht9⟩) (fun q hq => absurd hq List.not_mem_nil) dX0_stripOf_5
set_option maxHeartbeats 4000000 in
set_option maxRecDepth 100000 in
theorem c_X0_stripPlace (l : Launch) (t : Nat) (i : Nat) : Met l yX0_stripPlace wsX0_stripPlace ({ frames := 0, cells := 0, slots := 0, locals := 0 }) (va_Pc [.int (nI t), .int (nI i)] (fun _ => True)) (rd_Qi (fun r => r = nI (t * 12 + i))) 0 0 (fun _ => False) := by
  refine Met.ofW (cc := cX0_stripPlace) (maxL := 2) (ret := some .int) (by decide) rfl ?_
  intro p e s m args below meth c s₁ B hml hv
  obtain ⟨rfl, -⟩ := hv
  have hx := B.exec
  have hb := B.bytes
  have hr := B.returns
  have hts := atoms_spec (ws := wsX0_stripPlace) B.pre
  have hown : s.vm.findClass RX0 = some m.cls := findClass_of_methodNamed B.named
  have hlocks := B.notSynchronized
  have hl := lv_entry ([.int (nI t), .int (nI i)]) (n := 2) (Nat.le_of_ble_eq_true rfl)
  rw [lg_entry_eq]
  generalize (lg_sl ([.int (nI t), .int (nI i)]) ++ List.replicate (2 - (lg_sl ([.int (nI t), .int (nI i)])).length) Slot.unset).toArray = ls at hl ⊢
  have hl : lv_has ls 2 [(0, .int (nI t)), (1, .int (nI i))] := hl
  refine lv_iload_n hx hb dX0_stripPlace_0 rfl (lv_at hl 0 rfl) ?_
  refine lv_bipush (v := nI 12) hx hb dX0_stripPlace_1 (by decide) ?_
  refine kn_imul hx hb dX0_stripPlace_3 ?_
  refine lv_iload_n hx hb dX0_stripPlace_4 rfl (lv_at hl 1 rfl) ?_
  refine kn_iadd hx hb dX0_stripPlace_5 ?_
  exact W.iret (v := nI ((t * 12) + i)) hx hb hr (fun t9 ht9 hW9 => ⟨⟨_, rfl, congrArg nI (show (t * 12) + i = (t * 12 + i) from by first | rfl | (simp []; done))⟩, ht9⟩) (fun q hq => absurd hq List.not_mem_nil) dX0_stripPlace_6
set_option maxHeartbeats 4000000 in
set_option maxRecDepth 100000 in
theorem c_X0_markPlace (l : Launch) (g : Nat) (k : Nat) : Met l yX0_markPlace wsX0_markPlace ({ frames := 0, cells := 0, slots := 0, locals := 0 }) (va_Pc [.int (nI g), .int (nI k)] (fun _ => True)) (rd_Qi (fun r => r = nI (144 + g * 3 + k))) 0 0 (fun _ => False) := by
  refine Met.ofW (cc := cX0_markPlace) (maxL := 2) (ret := some .int) (by decide) rfl ?_
  intro p e s m args below meth c s₁ B hml hv
  obtain ⟨rfl, -⟩ := hv
  have hx := B.exec
  have hb := B.bytes
  have hr := B.returns
  have hts := atoms_spec (ws := wsX0_markPlace) B.pre
  have hown : s.vm.findClass RX0 = some m.cls := findClass_of_methodNamed B.named
  have hlocks := B.notSynchronized
  have hl := lv_entry ([.int (nI g), .int (nI k)]) (n := 2) (Nat.le_of_ble_eq_true rfl)
  rw [lg_entry_eq]
  generalize (lg_sl ([.int (nI g), .int (nI k)]) ++ List.replicate (2 - (lg_sl ([.int (nI g), .int (nI k)])).length) Slot.unset).toArray = ls at hl ⊢
  have hl : lv_has ls 2 [(0, .int (nI g)), (1, .int (nI k))] := hl
  refine lv_sipush (v := nI 144) hx hb dX0_markPlace_0 (by decide) ?_
  refine lv_iload_n hx hb dX0_markPlace_3 rfl (lv_at hl 0 rfl) ?_
  refine lv_iconst (v := nI 3) hx hb dX0_markPlace_4 (by decide) ?_
  refine kn_imul hx hb dX0_markPlace_5 ?_
  refine kn_iadd hx hb dX0_markPlace_6 ?_
  refine lv_iload_n hx hb dX0_markPlace_7 rfl (lv_at hl 1 rfl) ?_
  refine kn_iadd hx hb dX0_markPlace_8 ?_
  exact W.iret (v := nI ((144 + (g * 3)) + k)) hx hb hr (fun t9 ht9 hW9 => ⟨⟨_, rfl, rfl⟩, ht9⟩) (fun q hq => absurd hq List.not_mem_nil) dX0_markPlace_9
set_option maxHeartbeats 4000000 in
set_option maxRecDepth 100000 in
theorem c_X0_probePlace (l : Launch) (w : Nat) : Met l yX0_probePlace wsX0_probePlace ({ frames := 0, cells := 0, slots := 0, locals := 0 }) (va_Pc [.int (nI w)] (fun _ => True)) (rd_Qi (fun r => r = nI (162 + w))) 0 0 (fun _ => False) := by
  refine Met.ofW (cc := cX0_probePlace) (maxL := 1) (ret := some .int) (by decide) rfl ?_
  intro p e s m args below meth c s₁ B hml hv
  obtain ⟨rfl, -⟩ := hv
  have hx := B.exec
  have hb := B.bytes
  have hr := B.returns
  have hts := atoms_spec (ws := wsX0_probePlace) B.pre
  have hown : s.vm.findClass RX0 = some m.cls := findClass_of_methodNamed B.named
  have hlocks := B.notSynchronized
  have hl := lv_entry ([.int (nI w)]) (n := 1) (Nat.le_of_ble_eq_true rfl)
  rw [lg_entry_eq]
  generalize (lg_sl ([.int (nI w)]) ++ List.replicate (1 - (lg_sl ([.int (nI w)])).length) Slot.unset).toArray = ls at hl ⊢
  have hl : lv_has ls 1 [(0, .int (nI w))] := hl
  refine lv_sipush (v := nI 162) hx hb dX0_probePlace_0 (by decide) ?_
  refine lv_iload_n hx hb dX0_probePlace_3 rfl (lv_at hl 0 rfl) ?_
  refine kn_iadd hx hb dX0_probePlace_4 ?_
  exact W.iret (v := nI (162 + w)) hx hb hr (fun t9 ht9 hW9 => ⟨⟨_, rfl, rfl⟩, ht9⟩) (fun q hq => absurd hq List.not_mem_nil) dX0_probePlace_5
set_option maxHeartbeats 4000000 in
set_option maxRecDepth 100000 in
theorem c_X0_latestPlace (l : Launch) (D : va_G) (h0 hn hd hq : Nat) (cZ cD cI : ClassId) (nb : Nat → Bool) (v : Nat → UInt64) (ln : Nat → Nat) (go : Bool) (mv : Int32) (hln : ∀ j, ln j ≤ 12) (g : Nat) (w : Nat) (hg : g < 6) (hw : w < 2) : Met l yX0_latestPlace wsX0_latestPlace ({ frames := 1, cells := 0, slots := 0, locals := 21 }) (va_Pc [.ref h0, .int (nI g), .int (nI w)] (fun U => va_P D vwCl (WB h0 hn hd hq cZ cD cI nb v ln go mv) U.heap ∧ va_K D vwCl (TY cZ cD cI) U)) (rd_Qi (fun r => r = nI (lp ln (g * 2 + w)))) 0 0 (fun _ => False) := by
  refine Met.ofW (cc := cX0_latestPlace) (maxL := 4) (ret := some .int) (by decide) rfl ?_
  intro p e s m args below meth c s₁ B hml hv
  obtain ⟨rfl, hP, hK⟩ := hv
  have hx := B.exec
  have hb := B.bytes
  have hr := B.returns
  have hts := atoms_spec (ws := wsX0_latestPlace) B.pre
  have hown : s.vm.findClass RX0 = some m.cls := findClass_of_methodNamed B.named
  have hlocks := B.notSynchronized
  have hl := lv_entry ([.ref h0, .int (nI g), .int (nI w)]) (n := 4) (Nat.le_of_ble_eq_true rfl)
  rw [lg_entry_eq]
  generalize (lg_sl ([.ref h0, .int (nI g), .int (nI w)]) ++ List.replicate (4 - (lg_sl ([.ref h0, .int (nI g), .int (nI w)])).length) Slot.unset).toArray = ls at hl ⊢
  have hl : lv_has ls 4 [(0, .ref h0), (1, .int (nI g)), (2, .int (nI w))] := hl
  have hinRX0 : ∀ w ∈ wsX00, w ∈ wsX0_latestPlace := by decide +kernel
  have hf_17 := hts (.fieldLink RX0 17 "HarbourBoard" "lengths" "[I") (by decide +kernel)
  have h1 := hln (g * 2 + w)
  refine lv_iload_n hx hb dX0_latestPlace_0 rfl (lv_at hl 1 rfl) ?_
  refine lv_iload_n hx hb dX0_latestPlace_1 rfl (lv_at hl 2 rfl) ?_
  refine rd_calli (va_runS (As := [.int (nI g), .int (nI w)]) (rest := []) ⟨hx, hb, hml, hown, hts⟩ (c_X0_stripOf l g w ) (va_cwS 2 hts gX0_latestPlace_X0_stripOf rfl rfl rfl (by decide +kernel) ⟨Nat.le_of_ble_eq_true rfl, Nat.le_of_ble_eq_true rfl⟩) ⟨fun a U g mk q => q, fun U hU hW => ⟨rfl, trivial⟩⟩ rfl rfl hl.1 rfl (lv_room (Nat.le_of_ble_eq_true rfl)) dX0_latestPlace_2 ⟨Nat.le_of_ble_eq_true rfl, Nat.le_of_ble_eq_true rfl⟩) (fun r_1 hr_1 => ?_)
  subst hr_1
  refine lv_istore_n (lv' := [(3, .int (nI (g * 2 + w))), (0, .ref h0), (1, .int (nI g)), (2, .int (nI w))]) hx hb dX0_latestPlace_5 rfl hl (by decide) rfl (fun ls hl => ?_)
  refine lv_aload_n hx hb dX0_latestPlace_6 rfl (lv_at hl 1 rfl) ?_
  refine va_get (D := D) (ci := 1) (v := .ref hq) (C := RX0) (T := TX0) (N := 5) hx hb hts hinRX0 hown hK hP 0 rfl rfl 2 (by decide) hf_17 (fun _ h9 => h9) rfl dX0_latestPlace_7 ?_
  refine lv_iload_n hx hb dX0_latestPlace_10 rfl (lv_at hl 0 rfl) ?_
  refine kn_iald hx hb hK hP 3 2 rfl rfl (by omega) (by decide) dX0_latestPlace_11 ?_
  refine kn_ne (tgt := 21) hx hb (by omega) dX0_latestPlace_12 (by decide) (fun c_3 => ?_) (fun c_3 => ?_)
  · refine lv_iload_n hx hb dX0_latestPlace_21 rfl (lv_at hl 0 rfl) ?_
    refine lv_aload_n hx hb dX0_latestPlace_22 rfl (lv_at hl 1 rfl) ?_
    refine va_get (D := D) (ci := 1) (v := .ref hq) (C := RX0) (T := TX0) (N := 5) hx hb hts hinRX0 hown hK hP 0 rfl rfl 2 (by decide) hf_17 (fun _ h9 => h9) rfl dX0_latestPlace_23 ?_
    refine lv_iload_n hx hb dX0_latestPlace_26 rfl (lv_at hl 0 rfl) ?_
    refine kn_iald hx hb hK hP 3 2 rfl rfl (by omega) (by decide) dX0_latestPlace_27 ?_
    refine lv_iconst (v := nI 1) hx hb dX0_latestPlace_28 (by decide) ?_
    refine kn_isub hx hb (by omega) dX0_latestPlace_29 ?_
    refine rd_calli (va_runS (As := [.int (nI (g * 2 + w)), .int (nI ((ln (g * 2 + w)) - 1))]) (rest := []) ⟨hx, hb, hml, hown, hts⟩ (c_X0_stripPlace l (g * 2 + w) ((ln (g * 2 + w)) - 1) ) (va_cwS 2 hts gX0_latestPlace_X0_stripPlace rfl rfl rfl (by decide +kernel) ⟨Nat.le_of_ble_eq_true rfl, Nat.le_of_ble_eq_true rfl⟩) ⟨fun a U g mk q => q, fun U hU hW => ⟨rfl, trivial⟩⟩ rfl rfl hl.1 rfl (lv_room (Nat.le_of_ble_eq_true rfl)) dX0_latestPlace_30 ⟨Nat.le_of_ble_eq_true rfl, Nat.le_of_ble_eq_true rfl⟩) (fun r_4 hr_4 => ?_)
    subst hr_4
    exact W.iret (v := nI ((g * 2 + w) * 12 + ((ln (g * 2 + w)) - 1))) hx hb hr (fun t9 ht9 hW9 => ⟨⟨_, rfl, congrArg nI (lp_1 c_3).symm⟩, ht9⟩) (fun q hq => absurd hq List.not_mem_nil) dX0_latestPlace_33
  · refine lv_sipush (v := nI 164) hx hb dX0_latestPlace_15 (by decide) ?_
    refine lv_goto (tgt := 33) hx hb dX0_latestPlace_18 (by decide) ?_
    exact W.iret (v := nI 164) hx hb hr (fun t9 ht9 hW9 => ⟨⟨_, rfl, congrArg nI (lp_0 c_3).symm⟩, ht9⟩) (fun q hq => absurd hq List.not_mem_nil) dX0_latestPlace_33
set_option maxHeartbeats 4000000 in
set_option maxRecDepth 100000 in
theorem c_X0_isRelated (l : Launch) (D : va_G) (h0 hn hd hq : Nat) (cZ cD cI : ClassId) (nb : Nat → Bool) (v : Nat → UInt64) (ln : Nat → Nat) (go : Bool) (mv : Int32) (hln : ∀ j, ln j ≤ 12) (a : Nat) (b : Nat) (k : Nat) (ha : a < 165) (hbb : b < 165) (hk : k < 2147483648) : Met l yX0_isRelated wsX0_isRelated ({ frames := 0, cells := 0, slots := 0, locals := 0 }) (va_Pc [.ref h0, .int (nI a), .int (nI b), .int (nI k)] (fun U => va_P D vwCl (WB h0 hn hd hq cZ cD cI nb v ln go mv) U.heap ∧ va_K D vwCl (TY cZ cD cI) U)) (rd_Qi (fun r => r = b2i (rp nb v a b k))) 0 0 (fun _ => False) := by
  refine Met.ofW (cc := cX0_isRelated) (maxL := 8) (ret := some .boolean) (by decide) rfl ?_
  intro p e s m args below meth c s₁ B hml hv
  obtain ⟨rfl, hP, hK⟩ := hv
  have hx := B.exec
  have hb := B.bytes
  have hr := B.returns
  have hts := atoms_spec (ws := wsX0_isRelated) B.pre
  have hown : s.vm.findClass RX0 = some m.cls := findClass_of_methodNamed B.named
  have hlocks := B.notSynchronized
  have hl := lv_entry ([.ref h0, .int (nI a), .int (nI b), .int (nI k)]) (n := 8) (Nat.le_of_ble_eq_true rfl)
  rw [lg_entry_eq]
  generalize (lg_sl ([.ref h0, .int (nI a), .int (nI b), .int (nI k)]) ++ List.replicate (8 - (lg_sl ([.ref h0, .int (nI a), .int (nI b), .int (nI k)])).length) Slot.unset).toArray = ls at hl ⊢
  have hl : lv_has ls 8 [(0, .ref h0), (1, .int (nI a)), (2, .int (nI b)), (3, .int (nI k))] := hl
  have hinRX0 : ∀ w ∈ wsX00, w ∈ wsX0_isRelated := by decide +kernel
  have hf_9 := hts (.fieldLink RX0 9 "HarbourBoard" "isNumber" "[Z") (by decide +kernel)
  have hf_13 := hts (.fieldLink RX0 13 "HarbourBoard" "numbers" "[D") (by decide +kernel)
  refine lv_aload_n hx hb dX0_isRelated_0 rfl (lv_at hl 0 rfl) ?_
  refine va_get (D := D) (ci := 1) (v := .ref hn) (C := RX0) (T := TX0) (N := 5) hx hb hts hinRX0 hown hK hP 0 rfl rfl 0 (by decide) hf_9 (fun _ h9 => h9) rfl dX0_isRelated_1 ?_
  refine lv_iload_n hx hb dX0_isRelated_4 rfl (lv_at hl 1 rfl) ?_
  refine kn_zald hx hb hK hP 1 0 rfl rfl (by omega) (by decide) dX0_isRelated_5 ?_
  refine kb_eq (tgt := 18) hx hb dX0_isRelated_6 (by decide) (fun c_1 => ?_) (fun c_1 => ?_)
  · refine lv_iload_n hx hb dX0_isRelated_18 rfl (lv_at hl 3 rfl) ?_
    refine lv_iconst (v := nI 5) hx hb dX0_isRelated_19 (by decide) ?_
    refine kn_icmp_ne (tgt := 27) hx hb (by omega) (by decide) dX0_isRelated_20 (by decide) (fun c_2 => ?_) (fun c_2 => ?_)
    · refine lv_iconst (v := nI 0) hx hb dX0_isRelated_27 (by decide) ?_
      refine kt_i (y := b2i false) rfl ?_
      exact W.zret (v := b2i false) hx hb hr (b2i_nar _) (fun t9 ht9 hW9 => ⟨⟨_, rfl, congrArg b2i (show false = rp nb v a b k from by unfold rp; rw [rl_n1 c_1]; simp [c_2])⟩, ht9⟩) (fun q hq => absurd hq List.not_mem_nil) dX0_isRelated_28
    · refine lv_iconst (v := nI 1) hx hb dX0_isRelated_23 (by decide) ?_
      refine lv_goto (tgt := 28) hx hb dX0_isRelated_24 (by decide) ?_
      refine kt_i (y := b2i true) rfl ?_
      exact W.zret (v := b2i true) hx hb hr (b2i_nar _) (fun t9 ht9 hW9 => ⟨⟨_, rfl, congrArg b2i (show true = rp nb v a b k from by unfold rp; rw [rl_n1 c_1]; simp [c_2])⟩, ht9⟩) (fun q hq => absurd hq List.not_mem_nil) dX0_isRelated_28
  · refine lv_aload_n hx hb dX0_isRelated_9 rfl (lv_at hl 0 rfl) ?_
    refine va_get (D := D) (ci := 1) (v := .ref hn) (C := RX0) (T := TX0) (N := 5) hx hb hts hinRX0 hown hK hP 0 rfl rfl 0 (by decide) hf_9 (fun _ h9 => h9) rfl dX0_isRelated_10 ?_
    refine lv_iload_n hx hb dX0_isRelated_13 rfl (lv_at hl 2 rfl) ?_
    refine kn_zald hx hb hK hP 1 0 rfl rfl (by omega) (by decide) dX0_isRelated_14 ?_
    refine kb_ne (tgt := 29) hx hb dX0_isRelated_15 (by decide) (fun c_3 => ?_) (fun c_3 => ?_)
    · refine lv_aload_n hx hb dX0_isRelated_29 rfl (lv_at hl 0 rfl) ?_
      refine va_get (D := D) (ci := 1) (v := .ref hd) (C := RX0) (T := TX0) (N := 5) hx hb hts hinRX0 hown hK hP 0 rfl rfl 1 (by decide) hf_13 (fun _ h9 => h9) rfl dX0_isRelated_30 ?_
      refine lv_iload_n hx hb dX0_isRelated_33 rfl (lv_at hl 1 rfl) ?_
      refine kn_dald hx hb hK hP 2 1 rfl rfl (by omega) (by decide) dX0_isRelated_34 ?_
      refine lv_dstore (lv' := [(4, .double (v a)), (0, .ref h0), (1, .int (nI a)), (2, .int (nI b)), (3, .int (nI k))]) hx hb dX0_isRelated_35 hl (by decide) rfl (fun ls hl => ?_)
      refine lv_aload_n hx hb dX0_isRelated_37 rfl (lv_at hl 1 rfl) ?_
      refine va_get (D := D) (ci := 1) (v := .ref hd) (C := RX0) (T := TX0) (N := 5) hx hb hts hinRX0 hown hK hP 0 rfl rfl 1 (by decide) hf_13 (fun _ h9 => h9) rfl dX0_isRelated_38 ?_
      refine lv_iload_n hx hb dX0_isRelated_41 rfl (lv_at hl 3 rfl) ?_
      refine kn_dald hx hb hK hP 2 1 rfl rfl (by omega) (by decide) dX0_isRelated_42 ?_
      refine lv_dstore (lv' := [(6, .double (v b)), (4, .double (v a)), (0, .ref h0), (1, .int (nI a)), (2, .int (nI b)), (3, .int (nI k))]) hx hb dX0_isRelated_43 hl (by decide) rfl (fun ls hl => ?_)
      refine lv_iload_n hx hb dX0_isRelated_45 rfl (lv_at hl 5 rfl) ?_
      rcases (show k = 0 ∨ k = 1 ∨ k = 2 ∨ k = 3 ∨ k = 4 ∨ 5 ≤ k by omega) with rfl | rfl | rfl | rfl | rfl | hk5
      · refine lv_tableIn (tgt := 80) hx hb dX0_isRelated_46 (by decide) (by decide) rfl (by decide) ?_
        refine lv_dload hx hb dX0_isRelated_80 (lv_at hl 1 rfl) ?_
        refine lv_dload hx hb dX0_isRelated_82 (lv_at hl 0 rfl) ?_
        refine kc_dg_ge (tgt := 92) hx hb dX0_isRelated_84 dX0_isRelated_85 (by decide) (fun c_4 => ?_) (fun c_4 => ?_)
        · refine lv_iconst (v := nI 0) hx hb dX0_isRelated_92 (by decide) ?_
          refine kt_i (y := b2i false) rfl ?_
          exact W.zret (v := b2i false) hx hb hr (b2i_nar _) (fun t9 ht9 hW9 => ⟨⟨_, rfl, congrArg b2i (show false = rp nb v a b 0 from by unfold rp; rw [rl_y c_1 c_3]; exact c_4.symm)⟩, ht9⟩) (fun q hq => absurd hq List.not_mem_nil) dX0_isRelated_93
        · refine lv_iconst (v := nI 1) hx hb dX0_isRelated_88 (by decide) ?_
          refine lv_goto (tgt := 93) hx hb dX0_isRelated_89 (by decide) ?_
          refine kt_i (y := b2i true) rfl ?_
          exact W.zret (v := b2i true) hx hb hr (b2i_nar _) (fun t9 ht9 hW9 => ⟨⟨_, rfl, congrArg b2i (show true = rp nb v a b 0 from by unfold rp; rw [rl_y c_1 c_3]; exact c_4.symm)⟩, ht9⟩) (fun q hq => absurd hq List.not_mem_nil) dX0_isRelated_93
      · refine lv_tableIn (tgt := 94) hx hb dX0_isRelated_46 (by decide) (by decide) rfl (by decide) ?_
        refine lv_dload hx hb dX0_isRelated_94 (lv_at hl 1 rfl) ?_
        refine lv_dload hx hb dX0_isRelated_96 (lv_at hl 0 rfl) ?_
        refine kc_dg_gt (tgt := 106) hx hb dX0_isRelated_98 dX0_isRelated_99 (by decide) (fun c_5 => ?_) (fun c_5 => ?_)
        · refine lv_iconst (v := nI 0) hx hb dX0_isRelated_106 (by decide) ?_
          refine kt_i (y := b2i false) rfl ?_
          exact W.zret (v := b2i false) hx hb hr (b2i_nar _) (fun t9 ht9 hW9 => ⟨⟨_, rfl, congrArg b2i (show false = rp nb v a b 1 from by unfold rp; rw [rl_y c_1 c_3]; exact c_5.symm)⟩, ht9⟩) (fun q hq => absurd hq List.not_mem_nil) dX0_isRelated_107
        · refine lv_iconst (v := nI 1) hx hb dX0_isRelated_102 (by decide) ?_
          refine lv_goto (tgt := 107) hx hb dX0_isRelated_103 (by decide) ?_
          refine kt_i (y := b2i true) rfl ?_
          exact W.zret (v := b2i true) hx hb hr (b2i_nar _) (fun t9 ht9 hW9 => ⟨⟨_, rfl, congrArg b2i (show true = rp nb v a b 1 from by unfold rp; rw [rl_y c_1 c_3]; exact c_5.symm)⟩, ht9⟩) (fun q hq => absurd hq List.not_mem_nil) dX0_isRelated_107
      · refine lv_tableIn (tgt := 108) hx hb dX0_isRelated_46 (by decide) (by decide) rfl (by decide) ?_
        refine lv_dload hx hb dX0_isRelated_108 (lv_at hl 1 rfl) ?_
        refine lv_dload hx hb dX0_isRelated_110 (lv_at hl 0 rfl) ?_
        refine kc_dl_le (tgt := 120) hx hb dX0_isRelated_112 dX0_isRelated_113 (by decide) (fun c_6 => ?_) (fun c_6 => ?_)
        · refine lv_iconst (v := nI 0) hx hb dX0_isRelated_120 (by decide) ?_
          refine kt_i (y := b2i false) rfl ?_
          exact W.zret (v := b2i false) hx hb hr (b2i_nar _) (fun t9 ht9 hW9 => ⟨⟨_, rfl, congrArg b2i (show false = rp nb v a b 2 from by unfold rp; rw [rl_y c_1 c_3]; exact c_6.symm)⟩, ht9⟩) (fun q hq => absurd hq List.not_mem_nil) dX0_isRelated_121
        · refine lv_iconst (v := nI 1) hx hb dX0_isRelated_116 (by decide) ?_
          refine lv_goto (tgt := 121) hx hb dX0_isRelated_117 (by decide) ?_
          refine kt_i (y := b2i true) rfl ?_
          exact W.zret (v := b2i true) hx hb hr (b2i_nar _) (fun t9 ht9 hW9 => ⟨⟨_, rfl, congrArg b2i (show true = rp nb v a b 2 from by unfold rp; rw [rl_y c_1 c_3]; exact c_6.symm)⟩, ht9⟩) (fun q hq => absurd hq List.not_mem_nil) dX0_isRelated_121
      · refine lv_tableIn (tgt := 122) hx hb dX0_isRelated_46 (by decide) (by decide) rfl (by decide) ?_
        refine lv_dload hx hb dX0_isRelated_122 (lv_at hl 1 rfl) ?_
        refine lv_dload hx hb dX0_isRelated_124 (lv_at hl 0 rfl) ?_
        refine kc_dl_lt (tgt := 134) hx hb dX0_isRelated_126 dX0_isRelated_127 (by decide) (fun c_7 => ?_) (fun c_7 => ?_)
        · refine lv_iconst (v := nI 0) hx hb dX0_isRelated_134 (by decide) ?_
          refine kt_i (y := b2i false) rfl ?_
          exact W.zret (v := b2i false) hx hb hr (b2i_nar _) (fun t9 ht9 hW9 => ⟨⟨_, rfl, congrArg b2i (show false = rp nb v a b 3 from by unfold rp; rw [rl_y c_1 c_3]; exact c_7.symm)⟩, ht9⟩) (fun q hq => absurd hq List.not_mem_nil) dX0_isRelated_135
        · refine lv_iconst (v := nI 1) hx hb dX0_isRelated_130 (by decide) ?_
          refine lv_goto (tgt := 135) hx hb dX0_isRelated_131 (by decide) ?_
          refine kt_i (y := b2i true) rfl ?_
          exact W.zret (v := b2i true) hx hb hr (b2i_nar _) (fun t9 ht9 hW9 => ⟨⟨_, rfl, congrArg b2i (show true = rp nb v a b 3 from by unfold rp; rw [rl_y c_1 c_3]; exact c_7.symm)⟩, ht9⟩) (fun q hq => absurd hq List.not_mem_nil) dX0_isRelated_135
      · refine lv_tableIn (tgt := 136) hx hb dX0_isRelated_46 (by decide) (by decide) rfl (by decide) ?_
        refine lv_dload hx hb dX0_isRelated_136 (lv_at hl 1 rfl) ?_
        refine lv_dload hx hb dX0_isRelated_138 (lv_at hl 0 rfl) ?_
        refine kc_dl_ne (tgt := 148) hx hb dX0_isRelated_140 dX0_isRelated_141 (by decide) (fun c_8 => ?_) (fun c_8 => ?_)
        · refine lv_iconst (v := nI 0) hx hb dX0_isRelated_148 (by decide) ?_
          refine kt_i (y := b2i false) rfl ?_
          exact W.zret (v := b2i false) hx hb hr (b2i_nar _) (fun t9 ht9 hW9 => ⟨⟨_, rfl, congrArg b2i (show false = rp nb v a b 4 from by unfold rp; rw [rl_y c_1 c_3]; exact c_8.symm)⟩, ht9⟩) (fun q hq => absurd hq List.not_mem_nil) dX0_isRelated_149
        · refine lv_iconst (v := nI 1) hx hb dX0_isRelated_144 (by decide) ?_
          refine lv_goto (tgt := 149) hx hb dX0_isRelated_145 (by decide) ?_
          refine kt_i (y := b2i true) rfl ?_
          exact W.zret (v := b2i true) hx hb hr (b2i_nar _) (fun t9 ht9 hW9 => ⟨⟨_, rfl, congrArg b2i (show true = rp nb v a b 4 from by unfold rp; rw [rl_y c_1 c_3]; exact c_8.symm)⟩, ht9⟩) (fun q hq => absurd hq List.not_mem_nil) dX0_isRelated_149
      · refine lv_tableOut (tgt := 150) hx hb dX0_isRelated_46 (Or.inr (by rw [nI_toInt (by omega)]; omega)) (by decide) ?_
        refine lv_dload hx hb dX0_isRelated_150 (lv_at hl 1 rfl) ?_
        refine lv_dload hx hb dX0_isRelated_152 (lv_at hl 0 rfl) ?_
        refine kc_dl_eq (tgt := 162) hx hb dX0_isRelated_154 dX0_isRelated_155 (by decide) (fun c_9 => ?_) (fun c_9 => ?_)
        · refine lv_iconst (v := nI 0) hx hb dX0_isRelated_162 (by decide) ?_
          refine kt_i (y := b2i false) rfl ?_
          exact W.zret (v := b2i false) hx hb hr (b2i_nar _) (fun t9 ht9 hW9 => ⟨⟨_, rfl, congrArg b2i (show false = rp nb v a b k from by unfold rp; rw [rl_y c_1 c_3, rk_big hk5, c_9]; rfl)⟩, ht9⟩) (fun q hq => absurd hq List.not_mem_nil) dX0_isRelated_163
        · refine lv_iconst (v := nI 1) hx hb dX0_isRelated_158 (by decide) ?_
          refine lv_goto (tgt := 163) hx hb dX0_isRelated_159 (by decide) ?_
          refine kt_i (y := b2i true) rfl ?_
          exact W.zret (v := b2i true) hx hb hr (b2i_nar _) (fun t9 ht9 hW9 => ⟨⟨_, rfl, congrArg b2i (show true = rp nb v a b k from by unfold rp; rw [rl_y c_1 c_3, rk_big hk5, c_9]; rfl)⟩, ht9⟩) (fun q hq => absurd hq List.not_mem_nil) dX0_isRelated_163
    · refine lv_iload_n hx hb dX0_isRelated_18 rfl (lv_at hl 3 rfl) ?_
      refine lv_iconst (v := nI 5) hx hb dX0_isRelated_19 (by decide) ?_
      refine kn_icmp_ne (tgt := 27) hx hb (by omega) (by decide) dX0_isRelated_20 (by decide) (fun c_10 => ?_) (fun c_10 => ?_)
      · refine lv_iconst (v := nI 0) hx hb dX0_isRelated_27 (by decide) ?_
        refine kt_i (y := b2i false) rfl ?_
        exact W.zret (v := b2i false) hx hb hr (b2i_nar _) (fun t9 ht9 hW9 => ⟨⟨_, rfl, congrArg b2i (show false = rp nb v a b k from by unfold rp; rw [rl_n2 c_3]; simp [c_10])⟩, ht9⟩) (fun q hq => absurd hq List.not_mem_nil) dX0_isRelated_28
      · refine lv_iconst (v := nI 1) hx hb dX0_isRelated_23 (by decide) ?_
        refine lv_goto (tgt := 28) hx hb dX0_isRelated_24 (by decide) ?_
        refine kt_i (y := b2i true) rfl ?_
        exact W.zret (v := b2i true) hx hb hr (b2i_nar _) (fun t9 ht9 hW9 => ⟨⟨_, rfl, congrArg b2i (show true = rp nb v a b k from by unfold rp; rw [rl_n2 c_3]; simp [c_10])⟩, ht9⟩) (fun q hq => absurd hq List.not_mem_nil) dX0_isRelated_28
set_option maxHeartbeats 4000000 in
set_option maxRecDepth 100000 in
theorem c_X0_likenessOf (l : Launch) (D : va_G) (h0 hn hd hq : Nat) (cZ cD cI : ClassId) (nb : Nat → Bool) (v : Nat → UInt64) (ln : Nat → Nat) (go : Bool) (mv : Int32) (hln : ∀ j, ln j ≤ 12) (a : Nat) (b : Nat) (ha : a < 165) (hbb : b < 165) : Met l yX0_likenessOf wsX0_likenessOf ({ frames := 1, cells := 0, slots := 0, locals := 27 }) (va_Pc [.ref h0, .int (nI a), .int (nI b)] (fun U => va_P D vwCl (WB h0 hn hd hq cZ cD cI nb v ln go mv) U.heap ∧ va_K D vwCl (TY cZ cD cI) U)) (rd_Qi (fun r => r = nI (lk nb v a b))) 0 0 (fun _ => False) := by
  refine Met.ofW (cc := cX0_likenessOf) (maxL := 3) (ret := some .int) (by decide) rfl ?_
  intro p e s m args below meth c s₁ B hml hv
  obtain ⟨rfl, hP, hK⟩ := hv
  have hx := B.exec
  have hb := B.bytes
  have hr := B.returns
  have hts := atoms_spec (ws := wsX0_likenessOf) B.pre
  have hown : s.vm.findClass RX0 = some m.cls := findClass_of_methodNamed B.named
  have hlocks := B.notSynchronized
  have hl := lv_entry ([.ref h0, .int (nI a), .int (nI b)]) (n := 3) (Nat.le_of_ble_eq_true rfl)
  rw [lg_entry_eq]
  generalize (lg_sl ([.ref h0, .int (nI a), .int (nI b)]) ++ List.replicate (3 - (lg_sl ([.ref h0, .int (nI a), .int (nI b)])).length) Slot.unset).toArray = ls at hl ⊢
  have hl : lv_has ls 3 [(0, .ref h0), (1, .int (nI a)), (2, .int (nI b))] := hl
  have hinRX0 : ∀ w ∈ wsX00, w ∈ wsX0_likenessOf := by decide +kernel
  have hf_9 := hts (.fieldLink RX0 9 "HarbourBoard" "isNumber" "[Z") (by decide +kernel)
  refine lv_aload_n hx hb dX0_likenessOf_0 rfl (lv_at hl 0 rfl) ?_
  refine va_get (D := D) (ci := 1) (v := .ref hn) (C := RX0) (T := TX0) (N := 5) hx hb hts hinRX0 hown hK hP 0 rfl rfl 0 (by decide) hf_9 (fun _ h9 => h9) rfl dX0_likenessOf_1 ?_
  refine lv_iload_n hx hb dX0_likenessOf_4 rfl (lv_at hl 1 rfl) ?_
  refine kn_zald hx hb hK hP 1 0 rfl rfl (by omega) (by decide) dX0_likenessOf_5 ?_
  refine kb_ne (tgt := 20) hx hb dX0_likenessOf_6 (by decide) (fun c_1 => ?_) (fun c_1 => ?_)
  · refine lv_aload_n hx hb dX0_likenessOf_20 rfl (lv_at hl 0 rfl) ?_
    refine lv_iload_n hx hb dX0_likenessOf_21 rfl (lv_at hl 1 rfl) ?_
    refine lv_iload_n hx hb dX0_likenessOf_22 rfl (lv_at hl 2 rfl) ?_
    refine lv_iconst (v := nI 4) hx hb dX0_likenessOf_23 (by decide) ?_
    refine rd_calli (va_runV (As := [.int (nI a), .int (nI b), .int (nI 4)]) (rest := []) ⟨hx, hb, hml, hown, hts⟩ (c_X0_isRelated l D h0 hn hd hq cZ cD cI nb v ln go mv hln a b 4 (by omega) (by omega) (by decide)) (cwV 3 hts gX0_likenessOf_X0_isRelated rfl rfl rfl (by decide +kernel) ⟨Nat.le_of_ble_eq_true rfl, Nat.le_of_ble_eq_true rfl⟩) ⟨fun a U g mk q => ⟨q.1, q.2.1, va_K.moved (u := U) (U := U.calling g mk a) (Vm.Alike.refl U.vm) q.2.2⟩, va_recv hK hP (ci := 1) (q0 := 0) rfl rfl, fun U hU hW => ⟨rfl, by rw [hU]; exact hP, va_K.moved hW.alike hK⟩⟩ rfl rfl hl.1 rfl (lv_room (Nat.le_of_ble_eq_true rfl)) dX0_likenessOf_24 ⟨Nat.le_of_ble_eq_true rfl, Nat.le_of_ble_eq_true rfl⟩) (fun r_2 hr_2 => ?_)
    subst hr_2
    refine kb_eq (tgt := 34) hx hb dX0_likenessOf_27 (by decide) (fun c_3 => ?_) (fun c_3 => ?_)
    · refine lv_iconst (v := nI 0) hx hb dX0_likenessOf_34 (by decide) ?_
      exact W.iret (v := nI 0) hx hb hr (fun t9 ht9 hW9 => ⟨⟨_, rfl, congrArg nI (show 0 = (lk nb v a b) from by first | rfl | (simp [lk, c_1, c_3]; done) | (simp only [Nat.add_zero] at c_1 c_3; simp [lk, c_1, c_3]; done))⟩, ht9⟩) (fun q hq => absurd hq List.not_mem_nil) dX0_likenessOf_35
    · refine lv_iconst (v := nI 2) hx hb dX0_likenessOf_30 (by decide) ?_
      refine lv_goto (tgt := 35) hx hb dX0_likenessOf_31 (by decide) ?_
      exact W.iret (v := nI 2) hx hb hr (fun t9 ht9 hW9 => ⟨⟨_, rfl, congrArg nI (show 2 = (lk nb v a b) from by first | rfl | (simp [lk, c_1, c_3]; done) | (simp only [Nat.add_zero] at c_1 c_3; simp [lk, c_1, c_3]; done))⟩, ht9⟩) (fun q hq => absurd hq List.not_mem_nil) dX0_likenessOf_35
  · refine lv_aload_n hx hb dX0_likenessOf_9 rfl (lv_at hl 0 rfl) ?_
    refine va_get (D := D) (ci := 1) (v := .ref hn) (C := RX0) (T := TX0) (N := 5) hx hb hts hinRX0 hown hK hP 0 rfl rfl 0 (by decide) hf_9 (fun _ h9 => h9) rfl dX0_likenessOf_10 ?_
    refine lv_iload_n hx hb dX0_likenessOf_13 rfl (lv_at hl 2 rfl) ?_
    refine kn_zald hx hb hK hP 1 0 rfl rfl (by omega) (by decide) dX0_likenessOf_14 ?_
    refine kb_ne (tgt := 20) hx hb dX0_likenessOf_15 (by decide) (fun c_4 => ?_) (fun c_4 => ?_)
    · refine lv_aload_n hx hb dX0_likenessOf_20 rfl (lv_at hl 0 rfl) ?_
      refine lv_iload_n hx hb dX0_likenessOf_21 rfl (lv_at hl 1 rfl) ?_
      refine lv_iload_n hx hb dX0_likenessOf_22 rfl (lv_at hl 2 rfl) ?_
      refine lv_iconst (v := nI 4) hx hb dX0_likenessOf_23 (by decide) ?_
      refine rd_calli (va_runV (As := [.int (nI a), .int (nI b), .int (nI 4)]) (rest := []) ⟨hx, hb, hml, hown, hts⟩ (c_X0_isRelated l D h0 hn hd hq cZ cD cI nb v ln go mv hln a b 4 (by omega) (by omega) (by decide)) (cwV 3 hts gX0_likenessOf_X0_isRelated rfl rfl rfl (by decide +kernel) ⟨Nat.le_of_ble_eq_true rfl, Nat.le_of_ble_eq_true rfl⟩) ⟨fun a U g mk q => ⟨q.1, q.2.1, va_K.moved (u := U) (U := U.calling g mk a) (Vm.Alike.refl U.vm) q.2.2⟩, va_recv hK hP (ci := 1) (q0 := 0) rfl rfl, fun U hU hW => ⟨rfl, by rw [hU]; exact hP, va_K.moved hW.alike hK⟩⟩ rfl rfl hl.1 rfl (lv_room (Nat.le_of_ble_eq_true rfl)) dX0_likenessOf_24 ⟨Nat.le_of_ble_eq_true rfl, Nat.le_of_ble_eq_true rfl⟩) (fun r_5 hr_5 => ?_)
      subst hr_5
      refine kb_eq (tgt := 34) hx hb dX0_likenessOf_27 (by decide) (fun c_6 => ?_) (fun c_6 => ?_)
      · refine lv_iconst (v := nI 0) hx hb dX0_likenessOf_34 (by decide) ?_
        exact W.iret (v := nI 0) hx hb hr (fun t9 ht9 hW9 => ⟨⟨_, rfl, congrArg nI (show 0 = (lk nb v a b) from by first | rfl | (simp [lk, c_1, c_4, c_6]; done) | (simp only [Nat.add_zero] at c_1 c_4 c_6; simp [lk, c_1, c_4, c_6]; done))⟩, ht9⟩) (fun q hq => absurd hq List.not_mem_nil) dX0_likenessOf_35
      · refine lv_iconst (v := nI 2) hx hb dX0_likenessOf_30 (by decide) ?_
        refine lv_goto (tgt := 35) hx hb dX0_likenessOf_31 (by decide) ?_
        exact W.iret (v := nI 2) hx hb hr (fun t9 ht9 hW9 => ⟨⟨_, rfl, congrArg nI (show 2 = (lk nb v a b) from by first | rfl | (simp [lk, c_1, c_4, c_6]; done) | (simp only [Nat.add_zero] at c_1 c_4 c_6; simp [lk, c_1, c_4, c_6]; done))⟩, ht9⟩) (fun q hq => absurd hq List.not_mem_nil) dX0_likenessOf_35
    · refine lv_iconst (v := nI 1) hx hb dX0_likenessOf_18 (by decide) ?_
      exact W.iret (v := nI 1) hx hb hr (fun t9 ht9 hW9 => ⟨⟨_, rfl, congrArg nI (show 1 = (lk nb v a b) from by first | rfl | (simp [lk, c_1, c_4]; done) | (simp only [Nat.add_zero] at c_1 c_4; simp [lk, c_1, c_4]; done))⟩, ht9⟩) (fun q hq => absurd hq List.not_mem_nil) dX0_likenessOf_19
set_option maxHeartbeats 4000000 in
set_option maxRecDepth 100000 in
theorem c_X0_isAhead (l : Launch) (D : va_G) (h0 hn hd hq : Nat) (cZ cD cI : ClassId) (nb : Nat → Bool) (v : Nat → UInt64) (ln : Nat → Nat) (go : Bool) (mv : Int32) (hln : ∀ j, ln j ≤ 12) (g : Nat) (h : Nat) (hg : g < 6) (hh : h < 6) : Met l yX0_isAhead wsX0_isAhead ({ frames := 2, cells := 0, slots := 0, locals := 49 }) (va_Pc [.ref h0, .int (nI g), .int (nI h)] (fun U => va_P D vwCl (WB h0 hn hd hq cZ cD cI nb v ln go mv) U.heap ∧ va_K D vwCl (TY cZ cD cI) U)) (rd_Qi (fun r => r = b2i (ahd nb v ln g h))) 0 0 (fun _ => False) := by
  refine Met.ofW (cc := cX0_isAhead) (maxL := 5) (ret := some .boolean) (by decide) rfl ?_
  intro p e s m args below meth c s₁ B hml hv
  obtain ⟨rfl, hP, hK⟩ := hv
  have hx := B.exec
  have hb := B.bytes
  have hr := B.returns
  have hts := atoms_spec (ws := wsX0_isAhead) B.pre
  have hown : s.vm.findClass RX0 = some m.cls := findClass_of_methodNamed B.named
  have hlocks := B.notSynchronized
  have hl := lv_entry ([.ref h0, .int (nI g), .int (nI h)]) (n := 5) (Nat.le_of_ble_eq_true rfl)
  rw [lg_entry_eq]
  generalize (lg_sl ([.ref h0, .int (nI g), .int (nI h)]) ++ List.replicate (5 - (lg_sl ([.ref h0, .int (nI g), .int (nI h)])).length) Slot.unset).toArray = ls at hl ⊢
  have hl : lv_has ls 5 [(0, .ref h0), (1, .int (nI g)), (2, .int (nI h))] := hl
  have hinRX0 : ∀ w ∈ wsX00, w ∈ wsX0_isAhead := by decide +kernel
  have hf_9 := hts (.fieldLink RX0 9 "HarbourBoard" "isNumber" "[Z") (by decide +kernel)
  refine lv_aload_n hx hb dX0_isAhead_0 rfl (lv_at hl 0 rfl) ?_
  refine lv_iload_n hx hb dX0_isAhead_1 rfl (lv_at hl 1 rfl) ?_
  refine lv_iconst (v := nI 0) hx hb dX0_isAhead_2 (by decide) ?_
  refine rd_calli (va_runV (As := [.int (nI g), .int (nI 0)]) (rest := []) ⟨hx, hb, hml, hown, hts⟩ (c_X0_latestPlace l D h0 hn hd hq cZ cD cI nb v ln go mv hln g 0 (by omega) (by omega)) (cwV 2 hts gX0_isAhead_X0_latestPlace rfl rfl rfl (by decide +kernel) ⟨Nat.le_of_ble_eq_true rfl, Nat.le_of_ble_eq_true rfl⟩) ⟨fun a U g mk q => ⟨q.1, q.2.1, va_K.moved (u := U) (U := U.calling g mk a) (Vm.Alike.refl U.vm) q.2.2⟩, va_recv hK hP (ci := 1) (q0 := 0) rfl rfl, fun U hU hW => ⟨rfl, by rw [hU]; exact hP, va_K.moved hW.alike hK⟩⟩ rfl rfl hl.1 rfl (lv_room (Nat.le_of_ble_eq_true rfl)) dX0_isAhead_3 ⟨Nat.le_of_ble_eq_true rfl, Nat.le_of_ble_eq_true rfl⟩) (fun r_1 hr_1 => ?_)
  subst hr_1
  refine lv_istore_n (lv' := [(3, .int (nI (lp ln (g * 2 + 0)))), (0, .ref h0), (1, .int (nI g)), (2, .int (nI h))]) hx hb dX0_isAhead_6 rfl hl (by decide) rfl (fun ls hl => ?_)
  refine lv_aload_n hx hb dX0_isAhead_7 rfl (lv_at hl 1 rfl) ?_
  refine lv_iload_n hx hb dX0_isAhead_8 rfl (lv_at hl 3 rfl) ?_
  refine lv_iconst (v := nI 0) hx hb dX0_isAhead_9 (by decide) ?_
  refine rd_calli (va_runV (As := [.int (nI h), .int (nI 0)]) (rest := []) ⟨hx, hb, hml, hown, hts⟩ (c_X0_latestPlace l D h0 hn hd hq cZ cD cI nb v ln go mv hln h 0 (by omega) (by omega)) (cwV 2 hts gX0_isAhead_X0_latestPlace rfl rfl rfl (by decide +kernel) ⟨Nat.le_of_ble_eq_true rfl, Nat.le_of_ble_eq_true rfl⟩) ⟨fun a U g mk q => ⟨q.1, q.2.1, va_K.moved (u := U) (U := U.calling g mk a) (Vm.Alike.refl U.vm) q.2.2⟩, va_recv hK hP (ci := 1) (q0 := 0) rfl rfl, fun U hU hW => ⟨rfl, by rw [hU]; exact hP, va_K.moved hW.alike hK⟩⟩ rfl rfl hl.1 rfl (lv_room (Nat.le_of_ble_eq_true rfl)) dX0_isAhead_10 ⟨Nat.le_of_ble_eq_true rfl, Nat.le_of_ble_eq_true rfl⟩) (fun r_2 hr_2 => ?_)
  subst hr_2
  refine lv_istore (lv' := [(4, .int (nI (lp ln (h * 2 + 0)))), (3, .int (nI (lp ln (g * 2 + 0)))), (0, .ref h0), (1, .int (nI g)), (2, .int (nI h))]) hx hb dX0_isAhead_13 hl (by decide) rfl (fun ls hl => ?_)
  refine lv_aload_n hx hb dX0_isAhead_15 rfl (lv_at hl 2 rfl) ?_
  refine lv_iload_n hx hb dX0_isAhead_16 rfl (lv_at hl 1 rfl) ?_
  refine lv_iload hx hb dX0_isAhead_17 (lv_at hl 0 rfl) ?_
  refine rd_calli (va_runV (As := [.int (nI (lp ln (g * 2 + 0))), .int (nI (lp ln (h * 2 + 0)))]) (rest := []) ⟨hx, hb, hml, hown, hts⟩ (c_X0_likenessOf l D h0 hn hd hq cZ cD cI nb v ln go mv hln (lp ln (g * 2 + 0)) (lp ln (h * 2 + 0)) (lp_lt hln (by omega)) (lp_lt hln (by omega))) (cwV 2 hts gX0_isAhead_X0_likenessOf rfl rfl rfl (by decide +kernel) ⟨Nat.le_of_ble_eq_true rfl, Nat.le_of_ble_eq_true rfl⟩) ⟨fun a U g mk q => ⟨q.1, q.2.1, va_K.moved (u := U) (U := U.calling g mk a) (Vm.Alike.refl U.vm) q.2.2⟩, va_recv hK hP (ci := 1) (q0 := 0) rfl rfl, fun U hU hW => ⟨rfl, by rw [hU]; exact hP, va_K.moved hW.alike hK⟩⟩ rfl rfl hl.1 rfl (lv_room (Nat.le_of_ble_eq_true rfl)) dX0_isAhead_19 ⟨Nat.le_of_ble_eq_true rfl, Nat.le_of_ble_eq_true rfl⟩) (fun r_3 hr_3 => ?_)
  subst hr_3
  refine kn_ifle (tgt := 36) hx hb (by have := @lk_le nb v (lp ln (g * 2 + 0)) (lp ln (h * 2 + 0)); omega) dX0_isAhead_22 (by decide) (fun c_5 => ?_) (fun c_5 => ?_)
  · refine lv_aload_n hx hb dX0_isAhead_36 rfl (lv_at hl 2 rfl) ?_
    refine va_get (D := D) (ci := 1) (v := .ref hn) (C := RX0) (T := TX0) (N := 5) hx hb hts hinRX0 hown hK hP 0 rfl rfl 0 (by decide) hf_9 (fun _ h9 => h9) rfl dX0_isAhead_37 ?_
    refine lv_iload_n hx hb dX0_isAhead_40 rfl (lv_at hl 1 rfl) ?_
    refine kn_zald hx hb hK hP 1 0 rfl rfl (lp_lt hln (by omega)) (by decide) dX0_isAhead_41 ?_
    refine kb_eq (tgt := 70) hx hb dX0_isAhead_42 (by decide) (fun c_6 => ?_) (fun c_6 => ?_)
    · refine lv_iconst (v := nI 0) hx hb dX0_isAhead_70 (by decide) ?_
      refine kt_i (y := b2i false) rfl ?_
      exact W.zret (v := b2i false) hx hb hr (b2i_nar _) (fun t9 ht9 hW9 => ⟨⟨_, rfl, congrArg b2i (show false = ahd nb v ln g h from by first | rfl | (simp [ahd, ahp, c_5, c_6]; done) | (simp only [Nat.add_zero] at c_5 c_6; simp [ahd, ahp, c_5, c_6]; done))⟩, ht9⟩) (fun q hq => absurd hq List.not_mem_nil) dX0_isAhead_71
    · refine lv_aload_n hx hb dX0_isAhead_45 rfl (lv_at hl 2 rfl) ?_
      refine va_get (D := D) (ci := 1) (v := .ref hn) (C := RX0) (T := TX0) (N := 5) hx hb hts hinRX0 hown hK hP 0 rfl rfl 0 (by decide) hf_9 (fun _ h9 => h9) rfl dX0_isAhead_46 ?_
      refine lv_iload hx hb dX0_isAhead_49 (lv_at hl 0 rfl) ?_
      refine kn_zald hx hb hK hP 1 0 rfl rfl (lp_lt hln (by omega)) (by decide) dX0_isAhead_51 ?_
      refine kb_eq (tgt := 66) hx hb dX0_isAhead_52 (by decide) (fun c_7 => ?_) (fun c_7 => ?_)
      · refine lv_iconst (v := nI 1) hx hb dX0_isAhead_66 (by decide) ?_
        refine lv_goto (tgt := 71) hx hb dX0_isAhead_67 (by decide) ?_
        refine kt_i (y := b2i true) rfl ?_
        exact W.zret (v := b2i true) hx hb hr (b2i_nar _) (fun t9 ht9 hW9 => ⟨⟨_, rfl, congrArg b2i (show true = ahd nb v ln g h from by first | rfl | (simp [ahd, ahp, c_5, c_6, c_7]; done) | (simp only [Nat.add_zero] at c_5 c_6 c_7; simp [ahd, ahp, c_5, c_6, c_7]; done))⟩, ht9⟩) (fun q hq => absurd hq List.not_mem_nil) dX0_isAhead_71
      · refine lv_aload_n hx hb dX0_isAhead_55 rfl (lv_at hl 2 rfl) ?_
        refine lv_iload_n hx hb dX0_isAhead_56 rfl (lv_at hl 1 rfl) ?_
        refine lv_iload hx hb dX0_isAhead_57 (lv_at hl 0 rfl) ?_
        refine lv_iconst (v := nI 2) hx hb dX0_isAhead_59 (by decide) ?_
        refine rd_calli (va_runV (As := [.int (nI (lp ln (g * 2 + 0))), .int (nI (lp ln (h * 2 + 0))), .int (nI 2)]) (rest := []) ⟨hx, hb, hml, hown, hts⟩ (c_X0_isRelated l D h0 hn hd hq cZ cD cI nb v ln go mv hln (lp ln (g * 2 + 0)) (lp ln (h * 2 + 0)) 2 (lp_lt hln (by omega)) (lp_lt hln (by omega)) (by decide)) (cwV 3 hts gX0_isAhead_X0_isRelated rfl rfl rfl (by decide +kernel) ⟨Nat.le_of_ble_eq_true rfl, Nat.le_of_ble_eq_true rfl⟩) ⟨fun a U g mk q => ⟨q.1, q.2.1, va_K.moved (u := U) (U := U.calling g mk a) (Vm.Alike.refl U.vm) q.2.2⟩, va_recv hK hP (ci := 1) (q0 := 0) rfl rfl, fun U hU hW => ⟨rfl, by rw [hU]; exact hP, va_K.moved hW.alike hK⟩⟩ rfl rfl hl.1 rfl (lv_room (Nat.le_of_ble_eq_true rfl)) dX0_isAhead_60 ⟨Nat.le_of_ble_eq_true rfl, Nat.le_of_ble_eq_true rfl⟩) (fun r_8 hr_8 => ?_)
        subst hr_8
        refine kb_eq (tgt := 70) hx hb dX0_isAhead_63 (by decide) (fun c_9 => ?_) (fun c_9 => ?_)
        · refine lv_iconst (v := nI 0) hx hb dX0_isAhead_70 (by decide) ?_
          refine kt_i (y := b2i false) rfl ?_
          exact W.zret (v := b2i false) hx hb hr (b2i_nar _) (fun t9 ht9 hW9 => ⟨⟨_, rfl, congrArg b2i (show false = ahd nb v ln g h from by first | rfl | (simp [ahd, ahp, c_5, c_6, c_7, c_9]; done) | (simp only [Nat.add_zero] at c_5 c_6 c_7 c_9; simp [ahd, ahp, c_5, c_6, c_7, c_9]; done))⟩, ht9⟩) (fun q hq => absurd hq List.not_mem_nil) dX0_isAhead_71
        · refine lv_iconst (v := nI 1) hx hb dX0_isAhead_66 (by decide) ?_
          refine lv_goto (tgt := 71) hx hb dX0_isAhead_67 (by decide) ?_
          refine kt_i (y := b2i true) rfl ?_
          exact W.zret (v := b2i true) hx hb hr (b2i_nar _) (fun t9 ht9 hW9 => ⟨⟨_, rfl, congrArg b2i (show true = ahd nb v ln g h from by first | rfl | (simp [ahd, ahp, c_5, c_6, c_7, c_9]; done) | (simp only [Nat.add_zero] at c_5 c_6 c_7 c_9; simp [ahd, ahp, c_5, c_6, c_7, c_9]; done))⟩, ht9⟩) (fun q hq => absurd hq List.not_mem_nil) dX0_isAhead_71
  · refine lv_iload_n hx hb dX0_isAhead_25 rfl (lv_at hl 3 rfl) ?_
    refine lv_iload_n hx hb dX0_isAhead_26 rfl (lv_at hl 4 rfl) ?_
    refine kn_icmp_ge (tgt := 34) hx hb (by omega) (by omega) dX0_isAhead_27 (by decide) (fun c_10 => ?_) (fun c_10 => ?_)
    · refine lv_iconst (v := nI 0) hx hb dX0_isAhead_34 (by decide) ?_
      refine kt_i (y := b2i false) rfl ?_
      exact W.zret (v := b2i false) hx hb hr (b2i_nar _) (fun t9 ht9 hW9 => ⟨⟨_, rfl, congrArg b2i (show false = ahd nb v ln g h from by first | rfl | (simp [ahd, ahp, c_5, c_10]; done) | (simp only [Nat.add_zero] at c_5 c_10; simp [ahd, ahp, c_5, c_10]; done))⟩, ht9⟩) (fun q hq => absurd hq List.not_mem_nil) dX0_isAhead_35
    · refine lv_iconst (v := nI 1) hx hb dX0_isAhead_30 (by decide) ?_
      refine lv_goto (tgt := 35) hx hb dX0_isAhead_31 (by decide) ?_
      refine kt_i (y := b2i true) rfl ?_
      exact W.zret (v := b2i true) hx hb hr (b2i_nar _) (fun t9 ht9 hW9 => ⟨⟨_, rfl, congrArg b2i (show true = ahd nb v ln g h from by first | rfl | (simp [ahd, ahp, c_5, c_10]; done) | (simp only [Nat.add_zero] at c_5 c_10; simp [ahd, ahp, c_5, c_10]; done))⟩, ht9⟩) (fun q hq => absurd hq List.not_mem_nil) dX0_isAhead_35
set_option maxHeartbeats 4000000 in
set_option maxRecDepth 100000 in
theorem c_X0_standOfWind (l : Launch) (D : va_G) (h0 hn hd hq : Nat) (cZ cD cI : ClassId) (nb : Nat → Bool) (v : Nat → UInt64) (ln : Nat → Nat) (go : Bool) (mv : Int32) (hln : ∀ j, ln j ≤ 12) (g : Nat) (hg : g < 6) : Met l yX0_standOfWind wsX0_standOfWind ({ frames := 2, cells := 0, slots := 0, locals := 44 }) (va_Pc [.ref h0, .int (nI g)] (fun U => va_P D vwCl (WB h0 hn hd hq cZ cD cI nb v ln go mv) U.heap ∧ va_K D vwCl (TY cZ cD cI) U)) (rd_Qi (fun r => r = nI (sW nb v ln g))) 0 0 (fun _ => False) := by
  refine Met.ofW (cc := cX0_standOfWind) (maxL := 4) (ret := some .int) (by decide) rfl ?_
  intro p e s m args below meth c s₁ B hml hv
  obtain ⟨rfl, hP, hK⟩ := hv
  have hx := B.exec
  have hb := B.bytes
  have hr := B.returns
  have hts := atoms_spec (ws := wsX0_standOfWind) B.pre
  have hown : s.vm.findClass RX0 = some m.cls := findClass_of_methodNamed B.named
  have hlocks := B.notSynchronized
  have hl := lv_entry ([.ref h0, .int (nI g)]) (n := 4) (Nat.le_of_ble_eq_true rfl)
  rw [lg_entry_eq]
  generalize (lg_sl ([.ref h0, .int (nI g)]) ++ List.replicate (4 - (lg_sl ([.ref h0, .int (nI g)])).length) Slot.unset).toArray = ls at hl ⊢
  have hl : lv_has ls 4 [(0, .ref h0), (1, .int (nI g))] := hl
  have hinRX0 : ∀ w ∈ wsX00, w ∈ wsX0_standOfWind := by decide +kernel
  have hf_9 := hts (.fieldLink RX0 9 "HarbourBoard" "isNumber" "[Z") (by decide +kernel)
  refine lv_aload_n hx hb dX0_standOfWind_0 rfl (lv_at hl 0 rfl) ?_
  refine lv_iload_n hx hb dX0_standOfWind_1 rfl (lv_at hl 1 rfl) ?_
  refine lv_iconst (v := nI 1) hx hb dX0_standOfWind_2 (by decide) ?_
  refine rd_calli (va_runV (As := [.int (nI g), .int (nI 1)]) (rest := []) ⟨hx, hb, hml, hown, hts⟩ (c_X0_latestPlace l D h0 hn hd hq cZ cD cI nb v ln go mv hln g 1 (by omega) (by omega)) (cwV 2 hts gX0_standOfWind_X0_latestPlace rfl rfl rfl (by decide +kernel) ⟨Nat.le_of_ble_eq_true rfl, Nat.le_of_ble_eq_true rfl⟩) ⟨fun a U g mk q => ⟨q.1, q.2.1, va_K.moved (u := U) (U := U.calling g mk a) (Vm.Alike.refl U.vm) q.2.2⟩, va_recv hK hP (ci := 1) (q0 := 0) rfl rfl, fun U hU hW => ⟨rfl, by rw [hU]; exact hP, va_K.moved hW.alike hK⟩⟩ rfl rfl hl.1 rfl (lv_room (Nat.le_of_ble_eq_true rfl)) dX0_standOfWind_3 ⟨Nat.le_of_ble_eq_true rfl, Nat.le_of_ble_eq_true rfl⟩) (fun r_1 hr_1 => ?_)
  subst hr_1
  refine lv_istore_n (lv' := [(2, .int (nI (lp ln (g * 2 + 1)))), (0, .ref h0), (1, .int (nI g))]) hx hb dX0_standOfWind_6 rfl hl (by decide) rfl (fun ls hl => ?_)
  refine lv_iload_n hx hb dX0_standOfWind_7 rfl (lv_at hl 2 rfl) ?_
  refine lv_iconst (v := nI 2) hx hb dX0_standOfWind_8 (by decide) ?_
  refine rd_calli (va_runS (As := [.int (nI g), .int (nI 2)]) (rest := []) ⟨hx, hb, hml, hown, hts⟩ (c_X0_markPlace l g 2 ) (va_cwS 2 hts gX0_standOfWind_X0_markPlace rfl rfl rfl (by decide +kernel) ⟨Nat.le_of_ble_eq_true rfl, Nat.le_of_ble_eq_true rfl⟩) ⟨fun a U g mk q => q, fun U hU hW => ⟨rfl, trivial⟩⟩ rfl rfl hl.1 rfl (lv_room (Nat.le_of_ble_eq_true rfl)) dX0_standOfWind_9 ⟨Nat.le_of_ble_eq_true rfl, Nat.le_of_ble_eq_true rfl⟩) (fun r_2 hr_2 => ?_)
  subst hr_2
  refine lv_istore_n (lv' := [(3, .int (nI (144 + g * 3 + 2))), (2, .int (nI (lp ln (g * 2 + 1)))), (0, .ref h0), (1, .int (nI g))]) hx hb dX0_standOfWind_12 rfl hl (by decide) rfl (fun ls hl => ?_)
  refine lv_aload_n hx hb dX0_standOfWind_13 rfl (lv_at hl 2 rfl) ?_
  refine va_get (D := D) (ci := 1) (v := .ref hn) (C := RX0) (T := TX0) (N := 5) hx hb hts hinRX0 hown hK hP 0 rfl rfl 0 (by decide) hf_9 (fun _ h9 => h9) rfl dX0_standOfWind_14 ?_
  refine lv_iload_n hx hb dX0_standOfWind_17 rfl (lv_at hl 0 rfl) ?_
  refine kn_zald hx hb hK hP 1 0 rfl rfl (by omega) (by decide) dX0_standOfWind_18 ?_
  refine kb_ne (tgt := 24) hx hb dX0_standOfWind_19 (by decide) (fun c_3 => ?_) (fun c_3 => ?_)
  · refine lv_aload_n hx hb dX0_standOfWind_24 rfl (lv_at hl 2 rfl) ?_
    refine va_get (D := D) (ci := 1) (v := .ref hn) (C := RX0) (T := TX0) (N := 5) hx hb hts hinRX0 hown hK hP 0 rfl rfl 0 (by decide) hf_9 (fun _ h9 => h9) rfl dX0_standOfWind_25 ?_
    refine lv_iload_n hx hb dX0_standOfWind_28 rfl (lv_at hl 1 rfl) ?_
    refine kn_zald hx hb hK hP 1 0 rfl rfl (lp_lt hln (by omega)) (by decide) dX0_standOfWind_29 ?_
    refine kb_ne (tgt := 36) hx hb dX0_standOfWind_30 (by decide) (fun c_4 => ?_) (fun c_4 => ?_)
    · refine lv_aload_n hx hb dX0_standOfWind_36 rfl (lv_at hl 2 rfl) ?_
      refine lv_iload_n hx hb dX0_standOfWind_37 rfl (lv_at hl 1 rfl) ?_
      refine lv_iload_n hx hb dX0_standOfWind_38 rfl (lv_at hl 0 rfl) ?_
      refine lv_iconst (v := nI 0) hx hb dX0_standOfWind_39 (by decide) ?_
      refine rd_calli (va_runV (As := [.int (nI (lp ln (g * 2 + 1))), .int (nI (144 + g * 3 + 2)), .int (nI 0)]) (rest := []) ⟨hx, hb, hml, hown, hts⟩ (c_X0_isRelated l D h0 hn hd hq cZ cD cI nb v ln go mv hln (lp ln (g * 2 + 1)) (144 + g * 3 + 2) 0 (lp_lt hln (by omega)) (by omega) (by decide)) (cwV 3 hts gX0_standOfWind_X0_isRelated rfl rfl rfl (by decide +kernel) ⟨Nat.le_of_ble_eq_true rfl, Nat.le_of_ble_eq_true rfl⟩) ⟨fun a U g mk q => ⟨q.1, q.2.1, va_K.moved (u := U) (U := U.calling g mk a) (Vm.Alike.refl U.vm) q.2.2⟩, va_recv hK hP (ci := 1) (q0 := 0) rfl rfl, fun U hU hW => ⟨rfl, by rw [hU]; exact hP, va_K.moved hW.alike hK⟩⟩ rfl rfl hl.1 rfl (lv_room (Nat.le_of_ble_eq_true rfl)) dX0_standOfWind_40 ⟨Nat.le_of_ble_eq_true rfl, Nat.le_of_ble_eq_true rfl⟩) (fun r_5 hr_5 => ?_)
      subst hr_5
      refine kb_eq (tgt := 51) hx hb dX0_standOfWind_43 (by decide) (fun c_6 => ?_) (fun c_6 => ?_)
      · refine lv_bipush (v := nI 20) hx hb dX0_standOfWind_51 (by decide) ?_
        exact W.iret (v := nI 20) hx hb hr (fun t9 ht9 hW9 => ⟨⟨_, rfl, congrArg nI (show 20 = (sW nb v ln g) from by first | rfl | (simp [sW, c_3, c_4, c_6]; done) | (simp only [Nat.add_zero] at c_3 c_4 c_6; simp [sW, c_3, c_4, c_6]; done))⟩, ht9⟩) (fun q hq => absurd hq List.not_mem_nil) dX0_standOfWind_53
      · refine lv_bipush (v := nI 10) hx hb dX0_standOfWind_46 (by decide) ?_
        refine lv_goto (tgt := 53) hx hb dX0_standOfWind_48 (by decide) ?_
        exact W.iret (v := nI 10) hx hb hr (fun t9 ht9 hW9 => ⟨⟨_, rfl, congrArg nI (show 10 = (sW nb v ln g) from by first | rfl | (simp [sW, c_3, c_4, c_6]; done) | (simp only [Nat.add_zero] at c_3 c_4 c_6; simp [sW, c_3, c_4, c_6]; done))⟩, ht9⟩) (fun q hq => absurd hq List.not_mem_nil) dX0_standOfWind_53
    · refine lv_bipush (v := nI 30) hx hb dX0_standOfWind_33 (by decide) ?_
      exact W.iret (v := nI 30) hx hb hr (fun t9 ht9 hW9 => ⟨⟨_, rfl, congrArg nI (show 30 = (sW nb v ln g) from by first | rfl | (simp [sW, c_3, c_4]; done) | (simp only [Nat.add_zero] at c_3 c_4; simp [sW, c_3, c_4]; done))⟩, ht9⟩) (fun q hq => absurd hq List.not_mem_nil) dX0_standOfWind_35
  · refine lv_iconst (v := nI 0) hx hb dX0_standOfWind_22 (by decide) ?_
    exact W.iret (v := nI 0) hx hb hr (fun t9 ht9 hW9 => ⟨⟨_, rfl, congrArg nI (show 0 = (sW nb v ln g) from by first | rfl | (simp [sW, c_3]; done) | (simp only [Nat.add_zero] at c_3; simp [sW, c_3]; done))⟩, ht9⟩) (fun q hq => absurd hq List.not_mem_nil) dX0_standOfWind_23
set_option maxHeartbeats 4000000 in
set_option maxRecDepth 100000 in
theorem c_X0_standOfLevel (l : Launch) (D : va_G) (h0 hn hd hq : Nat) (cZ cD cI : ClassId) (nb : Nat → Bool) (v : Nat → UInt64) (ln : Nat → Nat) (go : Bool) (mv : Int32) (hln : ∀ j, ln j ≤ 12) (g : Nat) (hg : g < 6) : Met l yX0_standOfLevel wsX0_standOfLevel ({ frames := 2, cells := 0, slots := 0, locals := 44 }) (va_Pc [.ref h0, .int (nI g)] (fun U => va_P D vwCl (WB h0 hn hd hq cZ cD cI nb v ln go mv) U.heap ∧ va_K D vwCl (TY cZ cD cI) U)) (rd_Qi (fun r => r = nI (sL nb v ln g))) 0 0 (fun _ => False) := by
  refine Met.ofW (cc := cX0_standOfLevel) (maxL := 5) (ret := some .int) (by decide) rfl ?_
  intro p e s m args below meth c s₁ B hml hv
  obtain ⟨rfl, hP, hK⟩ := hv
  have hx := B.exec
  have hb := B.bytes
  have hr := B.returns
  have hts := atoms_spec (ws := wsX0_standOfLevel) B.pre
  have hown : s.vm.findClass RX0 = some m.cls := findClass_of_methodNamed B.named
  have hlocks := B.notSynchronized
  have hl := lv_entry ([.ref h0, .int (nI g)]) (n := 5) (Nat.le_of_ble_eq_true rfl)
  rw [lg_entry_eq]
  generalize (lg_sl ([.ref h0, .int (nI g)]) ++ List.replicate (5 - (lg_sl ([.ref h0, .int (nI g)])).length) Slot.unset).toArray = ls at hl ⊢
  have hl : lv_has ls 5 [(0, .ref h0), (1, .int (nI g))] := hl
  have hinRX0 : ∀ w ∈ wsX00, w ∈ wsX0_standOfLevel := by decide +kernel
  have hf_17 := hts (.fieldLink RX0 17 "HarbourBoard" "lengths" "[I") (by decide +kernel)
  have hf_9 := hts (.fieldLink RX0 9 "HarbourBoard" "isNumber" "[Z") (by decide +kernel)
  have h1 := hln (g * 2 + 0)
  refine lv_aload_n hx hb dX0_standOfLevel_0 rfl (lv_at hl 0 rfl) ?_
  refine va_get (D := D) (ci := 1) (v := .ref hq) (C := RX0) (T := TX0) (N := 5) hx hb hts hinRX0 hown hK hP 0 rfl rfl 2 (by decide) hf_17 (fun _ h9 => h9) rfl dX0_standOfLevel_1 ?_
  refine lv_iload_n hx hb dX0_standOfLevel_4 rfl (lv_at hl 1 rfl) ?_
  refine lv_iconst (v := nI 0) hx hb dX0_standOfLevel_5 (by decide) ?_
  refine rd_calli (va_runS (As := [.int (nI g), .int (nI 0)]) (rest := [.ref hq]) ⟨hx, hb, hml, hown, hts⟩ (c_X0_stripOf l g 0 ) (va_cwS 2 hts gX0_standOfLevel_X0_stripOf rfl rfl rfl (by decide +kernel) ⟨Nat.le_of_ble_eq_true rfl, Nat.le_of_ble_eq_true rfl⟩) ⟨fun a U g mk q => q, fun U hU hW => ⟨rfl, trivial⟩⟩ rfl rfl hl.1 rfl (lv_room (Nat.le_of_ble_eq_true rfl)) dX0_standOfLevel_6 ⟨Nat.le_of_ble_eq_true rfl, Nat.le_of_ble_eq_true rfl⟩) (fun r_1 hr_1 => ?_)
  subst hr_1
  refine kn_iald hx hb hK hP 3 2 rfl rfl (by omega) (by decide) dX0_standOfLevel_9 ?_
  refine kn_ne (tgt := 15) hx hb (by omega) dX0_standOfLevel_10 (by decide) (fun c_3 => ?_) (fun c_3 => ?_)
  · refine lv_aload_n hx hb dX0_standOfLevel_15 rfl (lv_at hl 0 rfl) ?_
    refine lv_iload_n hx hb dX0_standOfLevel_16 rfl (lv_at hl 1 rfl) ?_
    refine lv_iconst (v := nI 0) hx hb dX0_standOfLevel_17 (by decide) ?_
    refine rd_calli (va_runV (As := [.int (nI g), .int (nI 0)]) (rest := []) ⟨hx, hb, hml, hown, hts⟩ (c_X0_latestPlace l D h0 hn hd hq cZ cD cI nb v ln go mv hln g 0 (by omega) (by omega)) (cwV 2 hts gX0_standOfLevel_X0_latestPlace rfl rfl rfl (by decide +kernel) ⟨Nat.le_of_ble_eq_true rfl, Nat.le_of_ble_eq_true rfl⟩) ⟨fun a U g mk q => ⟨q.1, q.2.1, va_K.moved (u := U) (U := U.calling g mk a) (Vm.Alike.refl U.vm) q.2.2⟩, va_recv hK hP (ci := 1) (q0 := 0) rfl rfl, fun U hU hW => ⟨rfl, by rw [hU]; exact hP, va_K.moved hW.alike hK⟩⟩ rfl rfl hl.1 rfl (lv_room (Nat.le_of_ble_eq_true rfl)) dX0_standOfLevel_18 ⟨Nat.le_of_ble_eq_true rfl, Nat.le_of_ble_eq_true rfl⟩) (fun r_4 hr_4 => ?_)
    subst hr_4
    refine lv_istore_n (lv' := [(2, .int (nI (lp ln (g * 2 + 0)))), (0, .ref h0), (1, .int (nI g))]) hx hb dX0_standOfLevel_21 rfl hl (by decide) rfl (fun ls hl => ?_)
    refine lv_iload_n hx hb dX0_standOfLevel_22 rfl (lv_at hl 2 rfl) ?_
    refine lv_iconst (v := nI 0) hx hb dX0_standOfLevel_23 (by decide) ?_
    refine rd_calli (va_runS (As := [.int (nI g), .int (nI 0)]) (rest := []) ⟨hx, hb, hml, hown, hts⟩ (c_X0_markPlace l g 0 ) (va_cwS 2 hts gX0_standOfLevel_X0_markPlace rfl rfl rfl (by decide +kernel) ⟨Nat.le_of_ble_eq_true rfl, Nat.le_of_ble_eq_true rfl⟩) ⟨fun a U g mk q => q, fun U hU hW => ⟨rfl, trivial⟩⟩ rfl rfl hl.1 rfl (lv_room (Nat.le_of_ble_eq_true rfl)) dX0_standOfLevel_24 ⟨Nat.le_of_ble_eq_true rfl, Nat.le_of_ble_eq_true rfl⟩) (fun r_5 hr_5 => ?_)
    subst hr_5
    refine lv_istore_n (lv' := [(3, .int (nI (144 + g * 3 + 0))), (2, .int (nI (lp ln (g * 2 + 0)))), (0, .ref h0), (1, .int (nI g))]) hx hb dX0_standOfLevel_27 rfl hl (by decide) rfl (fun ls hl => ?_)
    refine lv_iload_n hx hb dX0_standOfLevel_28 rfl (lv_at hl 3 rfl) ?_
    refine lv_iconst (v := nI 1) hx hb dX0_standOfLevel_29 (by decide) ?_
    refine rd_calli (va_runS (As := [.int (nI g), .int (nI 1)]) (rest := []) ⟨hx, hb, hml, hown, hts⟩ (c_X0_markPlace l g 1 ) (va_cwS 2 hts gX0_standOfLevel_X0_markPlace rfl rfl rfl (by decide +kernel) ⟨Nat.le_of_ble_eq_true rfl, Nat.le_of_ble_eq_true rfl⟩) ⟨fun a U g mk q => q, fun U hU hW => ⟨rfl, trivial⟩⟩ rfl rfl hl.1 rfl (lv_room (Nat.le_of_ble_eq_true rfl)) dX0_standOfLevel_30 ⟨Nat.le_of_ble_eq_true rfl, Nat.le_of_ble_eq_true rfl⟩) (fun r_6 hr_6 => ?_)
    subst hr_6
    refine lv_istore (lv' := [(4, .int (nI (144 + g * 3 + 1))), (3, .int (nI (144 + g * 3 + 0))), (2, .int (nI (lp ln (g * 2 + 0)))), (0, .ref h0), (1, .int (nI g))]) hx hb dX0_standOfLevel_33 hl (by decide) rfl (fun ls hl => ?_)
    refine lv_aload_n hx hb dX0_standOfLevel_35 rfl (lv_at hl 3 rfl) ?_
    refine va_get (D := D) (ci := 1) (v := .ref hn) (C := RX0) (T := TX0) (N := 5) hx hb hts hinRX0 hown hK hP 0 rfl rfl 0 (by decide) hf_9 (fun _ h9 => h9) rfl dX0_standOfLevel_36 ?_
    refine lv_iload_n hx hb dX0_standOfLevel_39 rfl (lv_at hl 2 rfl) ?_
    refine kn_zald hx hb hK hP 1 0 rfl rfl (lp_lt hln (by omega)) (by decide) dX0_standOfLevel_40 ?_
    refine kb_ne (tgt := 46) hx hb dX0_standOfLevel_41 (by decide) (fun c_7 => ?_) (fun c_7 => ?_)
    · refine lv_aload_n hx hb dX0_standOfLevel_46 rfl (lv_at hl 3 rfl) ?_
      refine lv_iload_n hx hb dX0_standOfLevel_47 rfl (lv_at hl 2 rfl) ?_
      refine lv_iload_n hx hb dX0_standOfLevel_48 rfl (lv_at hl 1 rfl) ?_
      refine lv_iconst (v := nI 0) hx hb dX0_standOfLevel_49 (by decide) ?_
      refine rd_calli (va_runV (As := [.int (nI (lp ln (g * 2 + 0))), .int (nI (144 + g * 3 + 0)), .int (nI 0)]) (rest := []) ⟨hx, hb, hml, hown, hts⟩ (c_X0_isRelated l D h0 hn hd hq cZ cD cI nb v ln go mv hln (lp ln (g * 2 + 0)) (144 + g * 3 + 0) 0 (lp_lt hln (by omega)) (by omega) (by decide)) (cwV 3 hts gX0_standOfLevel_X0_isRelated rfl rfl rfl (by decide +kernel) ⟨Nat.le_of_ble_eq_true rfl, Nat.le_of_ble_eq_true rfl⟩) ⟨fun a U g mk q => ⟨q.1, q.2.1, va_K.moved (u := U) (U := U.calling g mk a) (Vm.Alike.refl U.vm) q.2.2⟩, va_recv hK hP (ci := 1) (q0 := 0) rfl rfl, fun U hU hW => ⟨rfl, by rw [hU]; exact hP, va_K.moved hW.alike hK⟩⟩ rfl rfl hl.1 rfl (lv_room (Nat.le_of_ble_eq_true rfl)) dX0_standOfLevel_50 ⟨Nat.le_of_ble_eq_true rfl, Nat.le_of_ble_eq_true rfl⟩) (fun r_8 hr_8 => ?_)
      subst hr_8
      refine kb_eq (tgt := 58) hx hb dX0_standOfLevel_53 (by decide) (fun c_9 => ?_) (fun c_9 => ?_)
      · refine lv_aload_n hx hb dX0_standOfLevel_58 rfl (lv_at hl 3 rfl) ?_
        refine lv_iload_n hx hb dX0_standOfLevel_59 rfl (lv_at hl 2 rfl) ?_
        refine lv_iload hx hb dX0_standOfLevel_60 (lv_at hl 0 rfl) ?_
        refine lv_iconst (v := nI 2) hx hb dX0_standOfLevel_62 (by decide) ?_
        refine rd_calli (va_runV (As := [.int (nI (lp ln (g * 2 + 0))), .int (nI (144 + g * 3 + 1)), .int (nI 2)]) (rest := []) ⟨hx, hb, hml, hown, hts⟩ (c_X0_isRelated l D h0 hn hd hq cZ cD cI nb v ln go mv hln (lp ln (g * 2 + 0)) (144 + g * 3 + 1) 2 (lp_lt hln (by omega)) (by omega) (by decide)) (cwV 3 hts gX0_standOfLevel_X0_isRelated rfl rfl rfl (by decide +kernel) ⟨Nat.le_of_ble_eq_true rfl, Nat.le_of_ble_eq_true rfl⟩) ⟨fun a U g mk q => ⟨q.1, q.2.1, va_K.moved (u := U) (U := U.calling g mk a) (Vm.Alike.refl U.vm) q.2.2⟩, va_recv hK hP (ci := 1) (q0 := 0) rfl rfl, fun U hU hW => ⟨rfl, by rw [hU]; exact hP, va_K.moved hW.alike hK⟩⟩ rfl rfl hl.1 rfl (lv_room (Nat.le_of_ble_eq_true rfl)) dX0_standOfLevel_63 ⟨Nat.le_of_ble_eq_true rfl, Nat.le_of_ble_eq_true rfl⟩) (fun r_10 hr_10 => ?_)
        subst hr_10
        refine kb_eq (tgt := 71) hx hb dX0_standOfLevel_66 (by decide) (fun c_11 => ?_) (fun c_11 => ?_)
        · refine lv_aload_n hx hb dX0_standOfLevel_71 rfl (lv_at hl 3 rfl) ?_
          refine lv_iload_n hx hb dX0_standOfLevel_72 rfl (lv_at hl 2 rfl) ?_
          refine lv_iload_n hx hb dX0_standOfLevel_73 rfl (lv_at hl 1 rfl) ?_
          refine lv_iconst (v := nI 4) hx hb dX0_standOfLevel_74 (by decide) ?_
          refine rd_calli (va_runV (As := [.int (nI (lp ln (g * 2 + 0))), .int (nI (144 + g * 3 + 0)), .int (nI 4)]) (rest := []) ⟨hx, hb, hml, hown, hts⟩ (c_X0_isRelated l D h0 hn hd hq cZ cD cI nb v ln go mv hln (lp ln (g * 2 + 0)) (144 + g * 3 + 0) 4 (lp_lt hln (by omega)) (by omega) (by decide)) (cwV 3 hts gX0_standOfLevel_X0_isRelated rfl rfl rfl (by decide +kernel) ⟨Nat.le_of_ble_eq_true rfl, Nat.le_of_ble_eq_true rfl⟩) ⟨fun a U g mk q => ⟨q.1, q.2.1, va_K.moved (u := U) (U := U.calling g mk a) (Vm.Alike.refl U.vm) q.2.2⟩, va_recv hK hP (ci := 1) (q0 := 0) rfl rfl, fun U hU hW => ⟨rfl, by rw [hU]; exact hP, va_K.moved hW.alike hK⟩⟩ rfl rfl hl.1 rfl (lv_room (Nat.le_of_ble_eq_true rfl)) dX0_standOfLevel_75 ⟨Nat.le_of_ble_eq_true rfl, Nat.le_of_ble_eq_true rfl⟩) (fun r_12 hr_12 => ?_)
          subst hr_12
          refine kb_ne (tgt := 92) hx hb dX0_standOfLevel_78 (by decide) (fun c_13 => ?_) (fun c_13 => ?_)
          · refine lv_iconst (v := nI 4) hx hb dX0_standOfLevel_92 (by decide) ?_
            exact W.iret (v := nI 4) hx hb hr (fun t9 ht9 hW9 => ⟨⟨_, rfl, congrArg nI (show 4 = (sL nb v ln g) from by first | rfl | (simp [sL, c_3, c_7, c_9, c_11, c_13]; done) | (simp only [Nat.add_zero] at c_3 c_7 c_9 c_11 c_13; simp [sL, c_3, c_7, c_9, c_11, c_13]; done))⟩, ht9⟩) (fun q hq => absurd hq List.not_mem_nil) dX0_standOfLevel_93
          · refine lv_aload_n hx hb dX0_standOfLevel_81 rfl (lv_at hl 3 rfl) ?_
            refine lv_iload_n hx hb dX0_standOfLevel_82 rfl (lv_at hl 2 rfl) ?_
            refine lv_iload hx hb dX0_standOfLevel_83 (lv_at hl 0 rfl) ?_
            refine lv_iconst (v := nI 4) hx hb dX0_standOfLevel_85 (by decide) ?_
            refine rd_calli (va_runV (As := [.int (nI (lp ln (g * 2 + 0))), .int (nI (144 + g * 3 + 1)), .int (nI 4)]) (rest := []) ⟨hx, hb, hml, hown, hts⟩ (c_X0_isRelated l D h0 hn hd hq cZ cD cI nb v ln go mv hln (lp ln (g * 2 + 0)) (144 + g * 3 + 1) 4 (lp_lt hln (by omega)) (by omega) (by decide)) (cwV 3 hts gX0_standOfLevel_X0_isRelated rfl rfl rfl (by decide +kernel) ⟨Nat.le_of_ble_eq_true rfl, Nat.le_of_ble_eq_true rfl⟩) ⟨fun a U g mk q => ⟨q.1, q.2.1, va_K.moved (u := U) (U := U.calling g mk a) (Vm.Alike.refl U.vm) q.2.2⟩, va_recv hK hP (ci := 1) (q0 := 0) rfl rfl, fun U hU hW => ⟨rfl, by rw [hU]; exact hP, va_K.moved hW.alike hK⟩⟩ rfl rfl hl.1 rfl (lv_room (Nat.le_of_ble_eq_true rfl)) dX0_standOfLevel_86 ⟨Nat.le_of_ble_eq_true rfl, Nat.le_of_ble_eq_true rfl⟩) (fun r_14 hr_14 => ?_)
            subst hr_14
            refine kb_eq (tgt := 94) hx hb dX0_standOfLevel_89 (by decide) (fun c_15 => ?_) (fun c_15 => ?_)
            · refine lv_aload_n hx hb dX0_standOfLevel_94 rfl (lv_at hl 3 rfl) ?_
              refine va_get (D := D) (ci := 1) (v := .ref hn) (C := RX0) (T := TX0) (N := 5) hx hb hts hinRX0 hown hK hP 0 rfl rfl 0 (by decide) hf_9 (fun _ h9 => h9) rfl dX0_standOfLevel_95 ?_
              refine lv_iload_n hx hb dX0_standOfLevel_98 rfl (lv_at hl 1 rfl) ?_
              refine kn_zald hx hb hK hP 1 0 rfl rfl (by omega) (by decide) dX0_standOfLevel_99 ?_
              refine kb_ne (tgt := 113) hx hb dX0_standOfLevel_100 (by decide) (fun c_16 => ?_) (fun c_16 => ?_)
              · refine lv_bipush (v := nI 6) hx hb dX0_standOfLevel_113 (by decide) ?_
                refine lv_goto (tgt := 119) hx hb dX0_standOfLevel_115 (by decide) ?_
                exact W.iret (v := nI 6) hx hb hr (fun t9 ht9 hW9 => ⟨⟨_, rfl, congrArg nI (show 6 = (sL nb v ln g) from by first | rfl | (simp [sL, c_3, c_7, c_9, c_11, c_13, c_15, c_16]; done) | (simp only [Nat.add_zero] at c_3 c_7 c_9 c_11 c_13 c_15 c_16; simp [sL, c_3, c_7, c_9, c_11, c_13, c_15, c_16]; done))⟩, ht9⟩) (fun q hq => absurd hq List.not_mem_nil) dX0_standOfLevel_119
              · refine lv_aload_n hx hb dX0_standOfLevel_103 rfl (lv_at hl 3 rfl) ?_
                refine va_get (D := D) (ci := 1) (v := .ref hn) (C := RX0) (T := TX0) (N := 5) hx hb hts hinRX0 hown hK hP 0 rfl rfl 0 (by decide) hf_9 (fun _ h9 => h9) rfl dX0_standOfLevel_104 ?_
                refine lv_iload hx hb dX0_standOfLevel_107 (lv_at hl 0 rfl) ?_
                refine kn_zald hx hb hK hP 1 0 rfl rfl (by omega) (by decide) dX0_standOfLevel_109 ?_
                refine kb_eq (tgt := 118) hx hb dX0_standOfLevel_110 (by decide) (fun c_17 => ?_) (fun c_17 => ?_)
                · refine lv_iconst (v := nI 5) hx hb dX0_standOfLevel_118 (by decide) ?_
                  exact W.iret (v := nI 5) hx hb hr (fun t9 ht9 hW9 => ⟨⟨_, rfl, congrArg nI (show 5 = (sL nb v ln g) from by first | rfl | (simp [sL, c_3, c_7, c_9, c_11, c_13, c_15, c_16, c_17]; done) | (simp only [Nat.add_zero] at c_3 c_7 c_9 c_11 c_13 c_15 c_16 c_17; simp [sL, c_3, c_7, c_9, c_11, c_13, c_15, c_16, c_17]; done))⟩, ht9⟩) (fun q hq => absurd hq List.not_mem_nil) dX0_standOfLevel_119
                · refine lv_bipush (v := nI 6) hx hb dX0_standOfLevel_113 (by decide) ?_
                  refine lv_goto (tgt := 119) hx hb dX0_standOfLevel_115 (by decide) ?_
                  exact W.iret (v := nI 6) hx hb hr (fun t9 ht9 hW9 => ⟨⟨_, rfl, congrArg nI (show 6 = (sL nb v ln g) from by first | rfl | (simp [sL, c_3, c_7, c_9, c_11, c_13, c_15, c_16, c_17]; done) | (simp only [Nat.add_zero] at c_3 c_7 c_9 c_11 c_13 c_15 c_16 c_17; simp [sL, c_3, c_7, c_9, c_11, c_13, c_15, c_16, c_17]; done))⟩, ht9⟩) (fun q hq => absurd hq List.not_mem_nil) dX0_standOfLevel_119
            · refine lv_iconst (v := nI 4) hx hb dX0_standOfLevel_92 (by decide) ?_
              exact W.iret (v := nI 4) hx hb hr (fun t9 ht9 hW9 => ⟨⟨_, rfl, congrArg nI (show 4 = (sL nb v ln g) from by first | rfl | (simp [sL, c_3, c_7, c_9, c_11, c_13, c_15]; done) | (simp only [Nat.add_zero] at c_3 c_7 c_9 c_11 c_13 c_15; simp [sL, c_3, c_7, c_9, c_11, c_13, c_15]; done))⟩, ht9⟩) (fun q hq => absurd hq List.not_mem_nil) dX0_standOfLevel_93
        · refine lv_iconst (v := nI 3) hx hb dX0_standOfLevel_69 (by decide) ?_
          exact W.iret (v := nI 3) hx hb hr (fun t9 ht9 hW9 => ⟨⟨_, rfl, congrArg nI (show 3 = (sL nb v ln g) from by first | rfl | (simp [sL, c_3, c_7, c_9, c_11]; done) | (simp only [Nat.add_zero] at c_3 c_7 c_9 c_11; simp [sL, c_3, c_7, c_9, c_11]; done))⟩, ht9⟩) (fun q hq => absurd hq List.not_mem_nil) dX0_standOfLevel_70
      · refine lv_iconst (v := nI 2) hx hb dX0_standOfLevel_56 (by decide) ?_
        exact W.iret (v := nI 2) hx hb hr (fun t9 ht9 hW9 => ⟨⟨_, rfl, congrArg nI (show 2 = (sL nb v ln g) from by first | rfl | (simp [sL, c_3, c_7, c_9]; done) | (simp only [Nat.add_zero] at c_3 c_7 c_9; simp [sL, c_3, c_7, c_9]; done))⟩, ht9⟩) (fun q hq => absurd hq List.not_mem_nil) dX0_standOfLevel_57
    · refine lv_iconst (v := nI 1) hx hb dX0_standOfLevel_44 (by decide) ?_
      exact W.iret (v := nI 1) hx hb hr (fun t9 ht9 hW9 => ⟨⟨_, rfl, congrArg nI (show 1 = (sL nb v ln g) from by first | rfl | (simp [sL, c_3, c_7]; done) | (simp only [Nat.add_zero] at c_3 c_7; simp [sL, c_3, c_7]; done))⟩, ht9⟩) (fun q hq => absurd hq List.not_mem_nil) dX0_standOfLevel_45
  · refine lv_iconst (v := nI 0) hx hb dX0_standOfLevel_13 (by decide) ?_
    exact W.iret (v := nI 0) hx hb hr (fun t9 ht9 hW9 => ⟨⟨_, rfl, congrArg nI (show 0 = (sL nb v ln g) from by first | rfl | (simp [sL, c_3]; done) | (simp only [Nat.add_zero] at c_3; simp [sL, c_3]; done))⟩, ht9⟩) (fun q hq => absurd hq List.not_mem_nil) dX0_standOfLevel_14
set_option maxHeartbeats 4000000 in
set_option maxRecDepth 100000 in
theorem c_X0_gaugesRelatedToProbe (l : Launch) (D : va_G) (h0 hn hd hq : Nat) (cZ cD cI : ClassId) (nb : Nat → Bool) (v : Nat → UInt64) (ln : Nat → Nat) (go : Bool) (mv : Int32) (hln : ∀ j, ln j ≤ 12) (w : Nat) (k : Nat) (hw : w < 2) (hk : k < 2147483648) : Met l yX0_gaugesRelatedToProbe wsX0_gaugesRelatedToProbe ({ frames := 2, cells := 0, slots := 0, locals := 44 }) (va_Pc [.ref h0, .int (nI w), .int (nI k)] (fun U => va_P D vwCl (WB h0 hn hd hq cZ cD cI nb v ln go mv) U.heap ∧ va_K D vwCl (TY cZ cD cI) U)) (rd_Qi (fun r => r = nI (gr nb v ln w k))) 0 0 (fun _ => False) := by
  refine Met.ofW (cc := cX0_gaugesRelatedToProbe) (maxL := 5) (ret := some .int) (by decide) rfl ?_
  intro p e s m args below meth c s₁ B hml hv
  obtain ⟨rfl, hP, hK⟩ := hv
  have hx := B.exec
  have hb := B.bytes
  have hr := B.returns
  have hts := atoms_spec (ws := wsX0_gaugesRelatedToProbe) B.pre
  have hown : s.vm.findClass RX0 = some m.cls := findClass_of_methodNamed B.named
  have hlocks := B.notSynchronized
  have hl := lv_entry ([.ref h0, .int (nI w), .int (nI k)]) (n := 5) (Nat.le_of_ble_eq_true rfl)
  rw [lg_entry_eq]
  generalize (lg_sl ([.ref h0, .int (nI w), .int (nI k)]) ++ List.replicate (5 - (lg_sl ([.ref h0, .int (nI w), .int (nI k)])).length) Slot.unset).toArray = ls at hl ⊢
  have hl : lv_has ls 5 [(0, .ref h0), (1, .int (nI w)), (2, .int (nI k))] := hl
  refine lv_iconst (v := nI 0) hx hb dX0_gaugesRelatedToProbe_0 (by decide) ?_
  refine lv_istore_n (lv' := [(3, .int (nI 0)), (0, .ref h0), (1, .int (nI w)), (2, .int (nI k))]) hx hb dX0_gaugesRelatedToProbe_1 rfl hl (by decide) rfl (fun ls hl => ?_)
  refine lv_iconst (v := nI 0) hx hb dX0_gaugesRelatedToProbe_2 (by decide) ?_
  refine lv_istore (lv' := [(4, .int (nI 0)), (3, .int (nI 0)), (0, .ref h0), (1, .int (nI w)), (2, .int (nI k))]) hx hb dX0_gaugesRelatedToProbe_3 hl (by decide) rfl (fun ls hl => ?_)
  refine (?_ : ∀ (k_ i : Nat) (ls : Array Slot), i + k_ = 6 → lv_has ls 5 [(0, .ref h0), (1, .int (nI w)), (2, .int (nI k)), (3, .int (nI (cn (fun g => rp nb v (lp ln (g * 2 + w)) (162 + w) k) i))), (4, .int (nI i))] → W p l e _ s m _ below meth c _ _ _ _ _ (F0 m 5 ls [])) 6 0 ls (by omega) (lv_sub hl [2, 3, 4, 1, 0] rfl)
  clear hl
  intro k_
  induction k_ with
  | zero =>
    intro i ls hi hl
    refine lv_iload hx hb dX0_gaugesRelatedToProbe_5 (lv_at hl 4 rfl) ?_
    refine lv_bipush (v := nI 6) hx hb dX0_gaugesRelatedToProbe_7 (by decide) ?_
    refine kn_icmp_ge (tgt := 40) hx hb (by omega) (by decide) dX0_gaugesRelatedToProbe_9 (by decide) (fun c_x => ?_) (fun h => absurd h (by omega))
    refine lv_iload_n hx hb dX0_gaugesRelatedToProbe_40 rfl (lv_at hl 3 rfl) ?_
    exact W.iret (v := nI (cn (fun g => rp nb v (lp ln (g * 2 + w)) (162 + w) k) i)) hx hb hr (fun t9 ht9 hW9 => ⟨⟨_, rfl, by rw [show i = 6 by omega]; rfl⟩, ht9⟩) (fun q hq => absurd hq List.not_mem_nil) dX0_gaugesRelatedToProbe_41
  | succ k_ ih =>
    intro i ls hi hl
    refine lv_iload hx hb dX0_gaugesRelatedToProbe_5 (lv_at hl 4 rfl) ?_
    refine lv_bipush (v := nI 6) hx hb dX0_gaugesRelatedToProbe_7 (by decide) ?_
    refine kn_icmp_ge (tgt := 40) hx hb (by omega) (by decide) dX0_gaugesRelatedToProbe_9 (by decide) (fun h => absurd h (by omega)) (fun c_x => ?_)
    refine lv_aload_n hx hb dX0_gaugesRelatedToProbe_12 rfl (lv_at hl 0 rfl) ?_
    refine lv_aload_n hx hb dX0_gaugesRelatedToProbe_13 rfl (lv_at hl 0 rfl) ?_
    refine lv_iload hx hb dX0_gaugesRelatedToProbe_14 (lv_at hl 4 rfl) ?_
    refine lv_iload_n hx hb dX0_gaugesRelatedToProbe_16 rfl (lv_at hl 1 rfl) ?_
    refine rd_calli (va_runV (As := [.int (nI i), .int (nI w)]) (rest := [.ref h0]) ⟨hx, hb, hml, hown, hts⟩ (c_X0_latestPlace l D h0 hn hd hq cZ cD cI nb v ln go mv hln i w (by omega) (by omega)) (cwV 2 hts gX0_gaugesRelatedToProbe_X0_latestPlace rfl rfl rfl (by decide +kernel) ⟨Nat.le_of_ble_eq_true rfl, Nat.le_of_ble_eq_true rfl⟩) ⟨fun a U g mk q => ⟨q.1, q.2.1, va_K.moved (u := U) (U := U.calling g mk a) (Vm.Alike.refl U.vm) q.2.2⟩, va_recv hK hP (ci := 1) (q0 := 0) rfl rfl, fun U hU hW => ⟨rfl, by rw [hU]; exact hP, va_K.moved hW.alike hK⟩⟩ rfl rfl hl.1 rfl (lv_room (Nat.le_of_ble_eq_true rfl)) dX0_gaugesRelatedToProbe_17 ⟨Nat.le_of_ble_eq_true rfl, Nat.le_of_ble_eq_true rfl⟩) (fun r_1 hr_1 => ?_)
    subst hr_1
    refine lv_iload_n hx hb dX0_gaugesRelatedToProbe_20 rfl (lv_at hl 1 rfl) ?_
    refine rd_calli (va_runS (As := [.int (nI w)]) (rest := [.int (nI (lp ln (i * 2 + w))), .ref h0]) ⟨hx, hb, hml, hown, hts⟩ (c_X0_probePlace l w ) (va_cwS 1 hts gX0_gaugesRelatedToProbe_X0_probePlace rfl rfl rfl (by decide +kernel) ⟨Nat.le_of_ble_eq_true rfl, Nat.le_of_ble_eq_true rfl⟩) ⟨fun a U g mk q => q, fun U hU hW => ⟨rfl, trivial⟩⟩ rfl rfl hl.1 rfl (lv_room (Nat.le_of_ble_eq_true rfl)) dX0_gaugesRelatedToProbe_21 ⟨Nat.le_of_ble_eq_true rfl, Nat.le_of_ble_eq_true rfl⟩) (fun r_2 hr_2 => ?_)
    subst hr_2
    refine lv_iload_n hx hb dX0_gaugesRelatedToProbe_24 rfl (lv_at hl 2 rfl) ?_
    refine rd_calli (va_runV (As := [.int (nI (lp ln (i * 2 + w))), .int (nI (162 + w)), .int (nI k)]) (rest := []) ⟨hx, hb, hml, hown, hts⟩ (c_X0_isRelated l D h0 hn hd hq cZ cD cI nb v ln go mv hln (lp ln (i * 2 + w)) (162 + w) k (lp_lt hln (by omega)) (by omega) (by omega)) (cwV 3 hts gX0_gaugesRelatedToProbe_X0_isRelated rfl rfl rfl (by decide +kernel) ⟨Nat.le_of_ble_eq_true rfl, Nat.le_of_ble_eq_true rfl⟩) ⟨fun a U g mk q => ⟨q.1, q.2.1, va_K.moved (u := U) (U := U.calling g mk a) (Vm.Alike.refl U.vm) q.2.2⟩, va_recv hK hP (ci := 1) (q0 := 0) rfl rfl, fun U hU hW => ⟨rfl, by rw [hU]; exact hP, va_K.moved hW.alike hK⟩⟩ rfl rfl hl.1 rfl (lv_room (Nat.le_of_ble_eq_true rfl)) dX0_gaugesRelatedToProbe_25 ⟨Nat.le_of_ble_eq_true rfl, Nat.le_of_ble_eq_true rfl⟩) (fun r_3 hr_3 => ?_)
    subst hr_3
    refine kb_eq (tgt := 34) hx hb dX0_gaugesRelatedToProbe_28 (by decide) (fun c_4 => ?_) (fun c_4 => ?_)
    · refine lv_iinc (v := nI (i + 1)) (lv' := [(4, .int (nI (i + 1))), (0, .ref h0), (1, .int (nI w)), (2, .int (nI k)), (3, .int (nI (cn (fun g => rp nb v (lp ln (g * 2 + w)) (162 + w) k) i)))]) hx hb dX0_gaugesRelatedToProbe_34 hl (k := 4) rfl (nI_add i 1) (by decide) rfl (fun ls hl => ?_)
      refine lv_goto (tgt := 5) hx hb dX0_gaugesRelatedToProbe_37 (by decide) ?_
      have e_1 : cn (fun g => rp nb v (lp ln (g * 2 + w)) (162 + w) k) (i + 1) = cn (fun g => rp nb v (lp ln (g * 2 + w)) (162 + w) k) i := cn_f c_4
      exact ih (i + 1) ls (by omega) (by rw [e_1]; exact lv_sub hl [1, 2, 3, 4, 0] rfl)
    · refine lv_iinc (v := nI (cn (fun g => rp nb v (lp ln (g * 2 + w)) (162 + w) k) i + 1)) (lv' := [(3, .int (nI (cn (fun g => rp nb v (lp ln (g * 2 + w)) (162 + w) k) i + 1))), (0, .ref h0), (1, .int (nI w)), (2, .int (nI k)), (4, .int (nI i))]) hx hb dX0_gaugesRelatedToProbe_31 hl (k := 3) rfl (nI_add (cn (fun g => rp nb v (lp ln (g * 2 + w)) (162 + w) k) i) 1) (by decide) rfl (fun ls hl => ?_)
      refine lv_iinc (v := nI (i + 1)) (lv' := [(4, .int (nI (i + 1))), (3, .int (nI (cn (fun g => rp nb v (lp ln (g * 2 + w)) (162 + w) k) i + 1))), (0, .ref h0), (1, .int (nI w)), (2, .int (nI k))]) hx hb dX0_gaugesRelatedToProbe_34 hl (k := 4) rfl (nI_add i 1) (by decide) rfl (fun ls hl => ?_)
      refine lv_goto (tgt := 5) hx hb dX0_gaugesRelatedToProbe_37 (by decide) ?_
      have e_1 : cn (fun g => rp nb v (lp ln (g * 2 + w)) (162 + w) k) (i + 1) = cn (fun g => rp nb v (lp ln (g * 2 + w)) (162 + w) k) i + 1 := cn_t c_4
      exact ih (i + 1) ls (by omega) (by rw [e_1]; exact lv_sub hl [2, 3, 4, 1, 0] rfl)
set_option maxHeartbeats 4000000 in
set_option maxRecDepth 100000 in
theorem c_X0_gaugesAheadOf (l : Launch) (D : va_G) (h0 hn hd hq : Nat) (cZ cD cI : ClassId) (nb : Nat → Bool) (v : Nat → UInt64) (ln : Nat → Nat) (go : Bool) (mv : Int32) (hln : ∀ j, ln j ≤ 12) (g : Nat) (hg : g < 6) : Met l yX0_gaugesAheadOf wsX0_gaugesAheadOf ({ frames := 3, cells := 0, slots := 0, locals := 73 }) (va_Pc [.ref h0, .int (nI g)] (fun U => va_P D vwCl (WB h0 hn hd hq cZ cD cI nb v ln go mv) U.heap ∧ va_K D vwCl (TY cZ cD cI) U)) (rd_Qi (fun r => r = nI (ga nb v ln g))) 0 0 (fun _ => False) := by
  refine Met.ofW (cc := cX0_gaugesAheadOf) (maxL := 4) (ret := some .int) (by decide) rfl ?_
  intro p e s m args below meth c s₁ B hml hv
  obtain ⟨rfl, hP, hK⟩ := hv
  have hx := B.exec
  have hb := B.bytes
  have hr := B.returns
  have hts := atoms_spec (ws := wsX0_gaugesAheadOf) B.pre
  have hown : s.vm.findClass RX0 = some m.cls := findClass_of_methodNamed B.named
  have hlocks := B.notSynchronized
  have hl := lv_entry ([.ref h0, .int (nI g)]) (n := 4) (Nat.le_of_ble_eq_true rfl)
  rw [lg_entry_eq]
  generalize (lg_sl ([.ref h0, .int (nI g)]) ++ List.replicate (4 - (lg_sl ([.ref h0, .int (nI g)])).length) Slot.unset).toArray = ls at hl ⊢
  have hl : lv_has ls 4 [(0, .ref h0), (1, .int (nI g))] := hl
  refine lv_iconst (v := nI 0) hx hb dX0_gaugesAheadOf_0 (by decide) ?_
  refine lv_istore_n (lv' := [(2, .int (nI 0)), (0, .ref h0), (1, .int (nI g))]) hx hb dX0_gaugesAheadOf_1 rfl hl (by decide) rfl (fun ls hl => ?_)
  refine lv_iconst (v := nI 0) hx hb dX0_gaugesAheadOf_2 (by decide) ?_
  refine lv_istore_n (lv' := [(3, .int (nI 0)), (2, .int (nI 0)), (0, .ref h0), (1, .int (nI g))]) hx hb dX0_gaugesAheadOf_3 rfl hl (by decide) rfl (fun ls hl => ?_)
  refine (?_ : ∀ (k_ i : Nat) (ls : Array Slot), i + k_ = 6 → lv_has ls 4 [(0, .ref h0), (1, .int (nI g)), (2, .int (nI (cn (fun j => ahd nb v ln j g) i))), (3, .int (nI i))] → W p l e _ s m _ below meth c _ _ _ _ _ (F0 m 4 ls [])) 6 0 ls (by omega) (lv_sub hl [2, 3, 1, 0] rfl)
  clear hl
  intro k_
  induction k_ with
  | zero =>
    intro i ls hi hl
    refine lv_iload_n hx hb dX0_gaugesAheadOf_4 rfl (lv_at hl 3 rfl) ?_
    refine lv_bipush (v := nI 6) hx hb dX0_gaugesAheadOf_5 (by decide) ?_
    refine kn_icmp_ge (tgt := 28) hx hb (by omega) (by decide) dX0_gaugesAheadOf_7 (by decide) (fun c_x => ?_) (fun h => absurd h (by omega))
    refine lv_iload_n hx hb dX0_gaugesAheadOf_28 rfl (lv_at hl 2 rfl) ?_
    exact W.iret (v := nI (cn (fun j => ahd nb v ln j g) i)) hx hb hr (fun t9 ht9 hW9 => ⟨⟨_, rfl, by rw [show i = 6 by omega]; rfl⟩, ht9⟩) (fun q hq => absurd hq List.not_mem_nil) dX0_gaugesAheadOf_29
  | succ k_ ih =>
    intro i ls hi hl
    refine lv_iload_n hx hb dX0_gaugesAheadOf_4 rfl (lv_at hl 3 rfl) ?_
    refine lv_bipush (v := nI 6) hx hb dX0_gaugesAheadOf_5 (by decide) ?_
    refine kn_icmp_ge (tgt := 28) hx hb (by omega) (by decide) dX0_gaugesAheadOf_7 (by decide) (fun h => absurd h (by omega)) (fun c_x => ?_)
    refine lv_aload_n hx hb dX0_gaugesAheadOf_10 rfl (lv_at hl 0 rfl) ?_
    refine lv_iload_n hx hb dX0_gaugesAheadOf_11 rfl (lv_at hl 3 rfl) ?_
    refine lv_iload_n hx hb dX0_gaugesAheadOf_12 rfl (lv_at hl 1 rfl) ?_
    refine rd_calli (va_runV (As := [.int (nI i), .int (nI g)]) (rest := []) ⟨hx, hb, hml, hown, hts⟩ (c_X0_isAhead l D h0 hn hd hq cZ cD cI nb v ln go mv hln i g (by omega) (by omega)) (cwV 2 hts gX0_gaugesAheadOf_X0_isAhead rfl rfl rfl (by decide +kernel) ⟨Nat.le_of_ble_eq_true rfl, Nat.le_of_ble_eq_true rfl⟩) ⟨fun a U g mk q => ⟨q.1, q.2.1, va_K.moved (u := U) (U := U.calling g mk a) (Vm.Alike.refl U.vm) q.2.2⟩, va_recv hK hP (ci := 1) (q0 := 0) rfl rfl, fun U hU hW => ⟨rfl, by rw [hU]; exact hP, va_K.moved hW.alike hK⟩⟩ rfl rfl hl.1 rfl (lv_room (Nat.le_of_ble_eq_true rfl)) dX0_gaugesAheadOf_13 ⟨Nat.le_of_ble_eq_true rfl, Nat.le_of_ble_eq_true rfl⟩) (fun r_1 hr_1 => ?_)
    subst hr_1
    refine kb_eq (tgt := 22) hx hb dX0_gaugesAheadOf_16 (by decide) (fun c_2 => ?_) (fun c_2 => ?_)
    · refine lv_iinc (v := nI (i + 1)) (lv' := [(3, .int (nI (i + 1))), (0, .ref h0), (1, .int (nI g)), (2, .int (nI (cn (fun j => ahd nb v ln j g) i)))]) hx hb dX0_gaugesAheadOf_22 hl (k := 3) rfl (nI_add i 1) (by decide) rfl (fun ls hl => ?_)
      refine lv_goto (tgt := 4) hx hb dX0_gaugesAheadOf_25 (by decide) ?_
      have e_1 : cn (fun j => ahd nb v ln j g) (i + 1) = cn (fun j => ahd nb v ln j g) i := cn_f c_2
      exact ih (i + 1) ls (by omega) (by rw [e_1]; exact lv_sub hl [1, 2, 3, 0] rfl)
    · refine lv_iinc (v := nI (cn (fun j => ahd nb v ln j g) i + 1)) (lv' := [(2, .int (nI (cn (fun j => ahd nb v ln j g) i + 1))), (0, .ref h0), (1, .int (nI g)), (3, .int (nI i))]) hx hb dX0_gaugesAheadOf_19 hl (k := 2) rfl (nI_add (cn (fun j => ahd nb v ln j g) i) 1) (by decide) rfl (fun ls hl => ?_)
      refine lv_iinc (v := nI (i + 1)) (lv' := [(3, .int (nI (i + 1))), (2, .int (nI (cn (fun j => ahd nb v ln j g) i + 1))), (0, .ref h0), (1, .int (nI g))]) hx hb dX0_gaugesAheadOf_22 hl (k := 3) rfl (nI_add i 1) (by decide) rfl (fun ls hl => ?_)
      refine lv_goto (tgt := 4) hx hb dX0_gaugesAheadOf_25 (by decide) ?_
      have e_1 : cn (fun j => ahd nb v ln j g) (i + 1) = cn (fun j => ahd nb v ln j g) i + 1 := cn_t c_2
      exact ih (i + 1) ls (by omega) (by rw [e_1]; exact lv_sub hl [2, 3, 1, 0] rfl)
set_option maxHeartbeats 4000000 in
set_option maxRecDepth 100000 in
theorem c_X0_runAhead (l : Launch) (D : va_G) (h0 hn hd hq : Nat) (cZ cD cI : ClassId) (nb : Nat → Bool) (v : Nat → UInt64) (ln : Nat → Nat) (go : Bool) (mv : Int32) (hln : ∀ j, ln j ≤ 12) (t : Nat) (q : Nat) (k : Nat) (ht : t < 12) (hq1 : q < 165) (hk : k < 2147483648) : Met l yX0_runAhead wsX0_runAhead ({ frames := 1, cells := 0, slots := 0, locals := 27 }) (va_Pc [.ref h0, .int (nI t), .int (nI q), .int (nI k)] (fun U => va_P D vwCl (WB h0 hn hd hq cZ cD cI nb v ln go mv) U.heap ∧ va_K D vwCl (TY cZ cD cI) U)) (rd_Qi (fun r => r = nI (tk (fun j => rp nb v (t * 12 + j) q k) (ln t) 0))) 0 0 (fun _ => False) := by
  refine Met.ofW (cc := cX0_runAhead) (maxL := 5) (ret := some .int) (by decide) rfl ?_
  intro p e s m args below meth c s₁ B hml hv
  obtain ⟨rfl, hP, hK⟩ := hv
  have hx := B.exec
  have hb := B.bytes
  have hr := B.returns
  have hts := atoms_spec (ws := wsX0_runAhead) B.pre
  have hown : s.vm.findClass RX0 = some m.cls := findClass_of_methodNamed B.named
  have hlocks := B.notSynchronized
  have hl := lv_entry ([.ref h0, .int (nI t), .int (nI q), .int (nI k)]) (n := 5) (Nat.le_of_ble_eq_true rfl)
  rw [lg_entry_eq]
  generalize (lg_sl ([.ref h0, .int (nI t), .int (nI q), .int (nI k)]) ++ List.replicate (5 - (lg_sl ([.ref h0, .int (nI t), .int (nI q), .int (nI k)])).length) Slot.unset).toArray = ls at hl ⊢
  have hl : lv_has ls 5 [(0, .ref h0), (1, .int (nI t)), (2, .int (nI q)), (3, .int (nI k))] := hl
  have hinRX0 : ∀ w ∈ wsX00, w ∈ wsX0_runAhead := by decide +kernel
  have hf_17 := hts (.fieldLink RX0 17 "HarbourBoard" "lengths" "[I") (by decide +kernel)
  have h1 := hln t
  refine lv_iconst (v := nI 0) hx hb dX0_runAhead_0 (by decide) ?_
  refine lv_istore (lv' := [(4, .int (nI 0)), (0, .ref h0), (1, .int (nI t)), (2, .int (nI q)), (3, .int (nI k))]) hx hb dX0_runAhead_1 hl (by decide) rfl (fun ls hl => ?_)
  refine (?_ : ∀ (k_ i : Nat) (ls : Array Slot), tk (fun j => rp nb v (t * 12 + j) q k) k_ i = tk (fun j => rp nb v (t * 12 + j) q k) (ln t) 0 → i + k_ = ln t → lv_has ls 5 [(0, .ref h0), (1, .int (nI t)), (2, .int (nI q)), (3, .int (nI k)), (4, .int (nI i))] → W p l e _ s m _ below meth c _ _ _ _ _ (F0 m 3 ls [])) (ln t) 0 ls rfl (by omega) (lv_sub hl [1, 2, 3, 4, 0] rfl)
  clear hl
  intro k_
  induction k_ with
  | zero =>
    intro i ls hv0 hi hl
    refine lv_iload hx hb dX0_runAhead_3 (lv_at hl 4 rfl) ?_
    refine lv_aload_n hx hb dX0_runAhead_5 rfl (lv_at hl 0 rfl) ?_
    refine va_get (D := D) (ci := 1) (v := .ref hq) (C := RX0) (T := TX0) (N := 5) hx hb hts hinRX0 hown hK hP 0 rfl rfl 2 (by decide) hf_17 (fun _ h9 => h9) rfl dX0_runAhead_6 ?_
    refine lv_iload_n hx hb dX0_runAhead_9 rfl (lv_at hl 1 rfl) ?_
    refine kn_iald hx hb hK hP 3 2 rfl rfl (by omega) (by decide) dX0_runAhead_10 ?_
    refine kn_icmp_ge (tgt := 35) hx hb (by omega) (by omega) dX0_runAhead_11 (by decide) (fun c_x => ?_) (fun h => absurd h (by omega))
    refine lv_iload hx hb dX0_runAhead_35 (lv_at hl 4 rfl) ?_
    exact W.iret (v := nI i) hx hb hr (fun t9 ht9 hW9 => ⟨⟨_, rfl, congrArg nI hv0⟩, ht9⟩) (fun q hq => absurd hq List.not_mem_nil) dX0_runAhead_37
  | succ k_ ih =>
    intro i ls hv0 hi hl
    refine lv_iload hx hb dX0_runAhead_3 (lv_at hl 4 rfl) ?_
    refine lv_aload_n hx hb dX0_runAhead_5 rfl (lv_at hl 0 rfl) ?_
    refine va_get (D := D) (ci := 1) (v := .ref hq) (C := RX0) (T := TX0) (N := 5) hx hb hts hinRX0 hown hK hP 0 rfl rfl 2 (by decide) hf_17 (fun _ h9 => h9) rfl dX0_runAhead_6 ?_
    refine lv_iload_n hx hb dX0_runAhead_9 rfl (lv_at hl 1 rfl) ?_
    refine kn_iald hx hb hK hP 3 2 rfl rfl (by omega) (by decide) dX0_runAhead_10 ?_
    refine kn_icmp_ge (tgt := 35) hx hb (by omega) (by omega) dX0_runAhead_11 (by decide) (fun h => absurd h (by omega)) (fun c_x => ?_)
    refine lv_aload_n hx hb dX0_runAhead_14 rfl (lv_at hl 0 rfl) ?_
    refine lv_iload_n hx hb dX0_runAhead_15 rfl (lv_at hl 1 rfl) ?_
    refine lv_iload hx hb dX0_runAhead_16 (lv_at hl 4 rfl) ?_
    refine rd_calli (va_runS (As := [.int (nI t), .int (nI i)]) (rest := [.ref h0]) ⟨hx, hb, hml, hown, hts⟩ (c_X0_stripPlace l t i ) (va_cwS 2 hts gX0_runAhead_X0_stripPlace rfl rfl rfl (by decide +kernel) ⟨Nat.le_of_ble_eq_true rfl, Nat.le_of_ble_eq_true rfl⟩) ⟨fun a U g mk q => q, fun U hU hW => ⟨rfl, trivial⟩⟩ rfl rfl hl.1 rfl (lv_room (Nat.le_of_ble_eq_true rfl)) dX0_runAhead_18 ⟨Nat.le_of_ble_eq_true rfl, Nat.le_of_ble_eq_true rfl⟩) (fun r_1 hr_1 => ?_)
    subst hr_1
    refine lv_iload_n hx hb dX0_runAhead_21 rfl (lv_at hl 2 rfl) ?_
    refine lv_iload_n hx hb dX0_runAhead_22 rfl (lv_at hl 3 rfl) ?_
    refine rd_calli (va_runV (As := [.int (nI (t * 12 + i)), .int (nI q), .int (nI k)]) (rest := []) ⟨hx, hb, hml, hown, hts⟩ (c_X0_isRelated l D h0 hn hd hq cZ cD cI nb v ln go mv hln (t * 12 + i) q k (by omega) (by omega) (by omega)) (cwV 3 hts gX0_runAhead_X0_isRelated rfl rfl rfl (by decide +kernel) ⟨Nat.le_of_ble_eq_true rfl, Nat.le_of_ble_eq_true rfl⟩) ⟨fun a U g mk q => ⟨q.1, q.2.1, va_K.moved (u := U) (U := U.calling g mk a) (Vm.Alike.refl U.vm) q.2.2⟩, va_recv hK hP (ci := 1) (q0 := 0) rfl rfl, fun U hU hW => ⟨rfl, by rw [hU]; exact hP, va_K.moved hW.alike hK⟩⟩ rfl rfl hl.1 rfl (lv_room (Nat.le_of_ble_eq_true rfl)) dX0_runAhead_23 ⟨Nat.le_of_ble_eq_true rfl, Nat.le_of_ble_eq_true rfl⟩) (fun r_2 hr_2 => ?_)
    subst hr_2
    refine kb_eq (tgt := 35) hx hb dX0_runAhead_26 (by decide) (fun c_3 => ?_) (fun c_3 => ?_)
    · refine lv_iload hx hb dX0_runAhead_35 (lv_at hl 4 rfl) ?_
      exact W.iret (v := nI i) hx hb hr (fun t9 ht9 hW9 => ⟨⟨_, rfl, congrArg nI (hv0.symm.trans (tk_f c_3)).symm⟩, ht9⟩) (fun q hq => absurd hq List.not_mem_nil) dX0_runAhead_37
    · refine lv_iinc (v := nI (i + 1)) (lv' := [(4, .int (nI (i + 1))), (0, .ref h0), (1, .int (nI t)), (2, .int (nI q)), (3, .int (nI k))]) hx hb dX0_runAhead_29 hl (k := 4) rfl (nI_add i 1) (by decide) rfl (fun ls hl => ?_)
      refine lv_goto (tgt := 3) hx hb dX0_runAhead_32 (by decide) ?_
      exact ih (i + 1) ls (by rw [← hv0]; exact (tk_t (P := fun j => rp nb v (t * 12 + j) q k) (i := i) c_3).symm) (by omega) (lv_sub hl [1, 2, 3, 4, 0] rfl)
set_option maxHeartbeats 4000000 in
set_option maxRecDepth 100000 in
theorem c_X0_runBack (l : Launch) (D : va_G) (h0 hn hd hq : Nat) (cZ cD cI : ClassId) (nb : Nat → Bool) (v : Nat → UInt64) (ln : Nat → Nat) (go : Bool) (mv : Int32) (hln : ∀ j, ln j ≤ 12) (t : Nat) (q : Nat) (k : Nat) (ht : t < 12) (hq1 : q < 165) (hk : k < 2147483648) : Met l yX0_runBack wsX0_runBack ({ frames := 1, cells := 0, slots := 0, locals := 27 }) (va_Pc [.ref h0, .int (nI t), .int (nI q), .int (nI k)] (fun U => va_P D vwCl (WB h0 hn hd hq cZ cD cI nb v ln go mv) U.heap ∧ va_K D vwCl (TY cZ cD cI) U)) (rd_Qi (fun r => r = nI (tk (fun j => !rp nb v (t * 12 + (ln t - 1 - j)) q k) (ln t) 0))) 0 0 (fun _ => False) := by
  refine Met.ofW (cc := cX0_runBack) (maxL := 6) (ret := some .int) (by decide) rfl ?_
  intro p e s m args below meth c s₁ B hml hv
  obtain ⟨rfl, hP, hK⟩ := hv
  have hx := B.exec
  have hb := B.bytes
  have hr := B.returns
  have hts := atoms_spec (ws := wsX0_runBack) B.pre
  have hown : s.vm.findClass RX0 = some m.cls := findClass_of_methodNamed B.named
  have hlocks := B.notSynchronized
  have hl := lv_entry ([.ref h0, .int (nI t), .int (nI q), .int (nI k)]) (n := 6) (Nat.le_of_ble_eq_true rfl)
  rw [lg_entry_eq]
  generalize (lg_sl ([.ref h0, .int (nI t), .int (nI q), .int (nI k)]) ++ List.replicate (6 - (lg_sl ([.ref h0, .int (nI t), .int (nI q), .int (nI k)])).length) Slot.unset).toArray = ls at hl ⊢
  have hl : lv_has ls 6 [(0, .ref h0), (1, .int (nI t)), (2, .int (nI q)), (3, .int (nI k))] := hl
  have hinRX0 : ∀ w ∈ wsX00, w ∈ wsX0_runBack := by decide +kernel
  have hf_17 := hts (.fieldLink RX0 17 "HarbourBoard" "lengths" "[I") (by decide +kernel)
  have h1 := hln t
  refine lv_aload_n hx hb dX0_runBack_0 rfl (lv_at hl 0 rfl) ?_
  refine va_get (D := D) (ci := 1) (v := .ref hq) (C := RX0) (T := TX0) (N := 5) hx hb hts hinRX0 hown hK hP 0 rfl rfl 2 (by decide) hf_17 (fun _ h9 => h9) rfl dX0_runBack_1 ?_
  refine lv_iload_n hx hb dX0_runBack_4 rfl (lv_at hl 1 rfl) ?_
  refine kn_iald hx hb hK hP 3 2 rfl rfl (by omega) (by decide) dX0_runBack_5 ?_
  refine lv_iconst (v := nI 1) hx hb dX0_runBack_6 (by decide) ?_
  refine lv_isub hx hb dX0_runBack_7 ?_
  refine lv_istore (lv' := [(4, .int ((nI (ln t)) - (nI 1))), (0, .ref h0), (1, .int (nI t)), (2, .int (nI q)), (3, .int (nI k))]) hx hb dX0_runBack_8 hl (by decide) rfl (fun ls hl => ?_)
  refine lv_iconst (v := nI 0) hx hb dX0_runBack_10 (by decide) ?_
  refine lv_istore (lv' := [(5, .int (nI 0)), (4, .int ((nI (ln t)) - (nI 1))), (0, .ref h0), (1, .int (nI t)), (2, .int (nI q)), (3, .int (nI k))]) hx hb dX0_runBack_11 hl (by decide) rfl (fun ls hl => ?_)
  refine (?_ : ∀ (k_ i : Nat) (ls : Array Slot), tk (fun j => !rp nb v (t * 12 + (ln t - 1 - j)) q k) k_ i = tk (fun j => !rp nb v (t * 12 + (ln t - 1 - j)) q k) (ln t) 0 → i + k_ = ln t → lv_has ls 6 [(0, .ref h0), (1, .int (nI t)), (2, .int (nI q)), (3, .int (nI k)), (4, .int (nI (ln t) - nI 1)), (5, .int (nI i))] → W p l e _ s m _ below meth c _ _ _ _ _ (F0 m 13 ls [])) (ln t) 0 ls rfl (by omega) (lv_sub hl [2, 3, 4, 5, 1, 0] rfl)
  clear hl
  intro k_
  induction k_ with
  | zero =>
    intro i ls hv0 hi hl
    refine lv_iload hx hb dX0_runBack_13 (lv_at hl 5 rfl) ?_
    refine lv_iload hx hb dX0_runBack_15 (lv_at hl 4 rfl) ?_
    refine lv_icmp_gt (tgt := 44) hx hb dX0_runBack_17 (by decide) (fun c_x => ?_) (fun h => absurd ((rb_gt (by omega) (by omega)).mpr (by omega)) h)
    refine lv_iload hx hb dX0_runBack_44 (lv_at hl 5 rfl) ?_
    exact W.iret (v := nI i) hx hb hr (fun t9 ht9 hW9 => ⟨⟨_, rfl, congrArg nI hv0⟩, ht9⟩) (fun q hq => absurd hq List.not_mem_nil) dX0_runBack_46
  | succ k_ ih =>
    intro i ls hv0 hi hl
    refine lv_iload hx hb dX0_runBack_13 (lv_at hl 5 rfl) ?_
    refine lv_iload hx hb dX0_runBack_15 (lv_at hl 4 rfl) ?_
    refine lv_icmp_gt (tgt := 44) hx hb dX0_runBack_17 (by decide) (fun h => absurd ((rb_gt (by omega) (by omega)).mp h) (by omega)) (fun c_x => ?_)
    refine lv_aload_n hx hb dX0_runBack_20 rfl (lv_at hl 0 rfl) ?_
    refine lv_iload_n hx hb dX0_runBack_21 rfl (lv_at hl 1 rfl) ?_
    refine lv_iload hx hb dX0_runBack_22 (lv_at hl 4 rfl) ?_
    refine lv_iload hx hb dX0_runBack_24 (lv_at hl 5 rfl) ?_
    refine lv_isub hx hb dX0_runBack_26 ?_
    refine kt_i (y := nI (ln t - 1 - i)) (rb_sub (by omega) (by omega)) ?_
    refine rd_calli (va_runS (As := [.int (nI t), .int (nI (ln t - 1 - i))]) (rest := [.ref h0]) ⟨hx, hb, hml, hown, hts⟩ (c_X0_stripPlace l t (ln t - 1 - i) ) (va_cwS 2 hts gX0_runBack_X0_stripPlace rfl rfl rfl (by decide +kernel) ⟨Nat.le_of_ble_eq_true rfl, Nat.le_of_ble_eq_true rfl⟩) ⟨fun a U g mk q => q, fun U hU hW => ⟨rfl, trivial⟩⟩ rfl rfl hl.1 rfl (lv_room (Nat.le_of_ble_eq_true rfl)) dX0_runBack_27 ⟨Nat.le_of_ble_eq_true rfl, Nat.le_of_ble_eq_true rfl⟩) (fun r_1 hr_1 => ?_)
    subst hr_1
    refine lv_iload_n hx hb dX0_runBack_30 rfl (lv_at hl 2 rfl) ?_
    refine lv_iload_n hx hb dX0_runBack_31 rfl (lv_at hl 3 rfl) ?_
    refine rd_calli (va_runV (As := [.int (nI (t * 12 + (ln t - 1 - i))), .int (nI q), .int (nI k)]) (rest := []) ⟨hx, hb, hml, hown, hts⟩ (c_X0_isRelated l D h0 hn hd hq cZ cD cI nb v ln go mv hln (t * 12 + (ln t - 1 - i)) q k (by omega) (by omega) (by omega)) (cwV 3 hts gX0_runBack_X0_isRelated rfl rfl rfl (by decide +kernel) ⟨Nat.le_of_ble_eq_true rfl, Nat.le_of_ble_eq_true rfl⟩) ⟨fun a U g mk q => ⟨q.1, q.2.1, va_K.moved (u := U) (U := U.calling g mk a) (Vm.Alike.refl U.vm) q.2.2⟩, va_recv hK hP (ci := 1) (q0 := 0) rfl rfl, fun U hU hW => ⟨rfl, by rw [hU]; exact hP, va_K.moved hW.alike hK⟩⟩ rfl rfl hl.1 rfl (lv_room (Nat.le_of_ble_eq_true rfl)) dX0_runBack_32 ⟨Nat.le_of_ble_eq_true rfl, Nat.le_of_ble_eq_true rfl⟩) (fun r_2 hr_2 => ?_)
    subst hr_2
    refine kb_ne (tgt := 44) hx hb dX0_runBack_35 (by decide) (fun c_3 => ?_) (fun c_3 => ?_)
    · refine lv_iload hx hb dX0_runBack_44 (lv_at hl 5 rfl) ?_
      exact W.iret (v := nI i) hx hb hr (fun t9 ht9 hW9 => ⟨⟨_, rfl, congrArg nI (hv0.symm.trans (tk_f (by simp [c_3]))).symm⟩, ht9⟩) (fun q hq => absurd hq List.not_mem_nil) dX0_runBack_46
    · refine lv_iinc (v := nI (i + 1)) (lv' := [(5, .int (nI (i + 1))), (0, .ref h0), (1, .int (nI t)), (2, .int (nI q)), (3, .int (nI k)), (4, .int (nI (ln t) - nI 1))]) hx hb dX0_runBack_38 hl (k := 5) rfl (nI_add i 1) (by decide) rfl (fun ls hl => ?_)
      refine lv_goto (tgt := 13) hx hb dX0_runBack_41 (by decide) ?_
      exact ih (i + 1) ls (by rw [← hv0]; exact (tk_t (by simp [c_3])).symm) (by omega) (lv_sub hl [1, 2, 3, 4, 5, 0] rfl)
