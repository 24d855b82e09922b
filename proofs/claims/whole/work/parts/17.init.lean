/-! The two constructors. -/
theorem ra_same {U : State} {a b : ClassId} {ty : FieldType} (h0 : va_RA U a ty = (U.vm.findClass ("[" ++ ty.toString) = some a)) (h00 : va_RA U b ty = (U.vm.findClass ("[" ++ ty.toString) = some b)) (h1 : va_RA U a ty) (h2 : va_RA U b ty) : a = b := by
  rw [h0] at h1; rw [h00] at h2
  have := h1.symm.trans h2
  injection this
abbrev at_X0 (D : va_G) (A : Nat → Prop) (h0 : Nat) (_ : Unit) (t : State) : Prop := ∃ (hn hd hq : Nat) (cZ cD cI : ClassId), va_P D vwCl (WB h0 hn hd hq cZ cD cI (fun _ => false) (fun _ => 0) (fun _ => 0) false 0) t.heap ∧ va_K D vwCl (TY cZ cD cI) t ∧ va_D A (WB h0 hn hd hq cZ cD cI (fun _ => false) (fun _ => 0) (fun _ => 0) false 0)
set_option maxHeartbeats 4000000 in
set_option maxRecDepth 100000 in
theorem c_X0_init (l : Launch) (D : va_G) (h0 : Nat) (zz : Nat) : Met l yX0_init wsX0_init ({ frames := 1, cells := 3, slots := 342, locals := 12 }) (va_Pc [.ref h0] (fun U => U.heap.size = zz ∧ va_P D vwCl [(h0, .inr (1, [.null, .null, .null, .int 0, .int 0]))] U.heap ∧ va_K D vwCl [] U ∧ va_D (fun _ => True) [(h0, .inr (1, [.null, .null, .null, .int 0, .int 0]))])) (va_Qv (fun _ : Unit => True) (at_X0 D (va_A [(h0, .inr (1, [.null, .null, .null, .int 0, .int 0]))] zz) h0) (va_A [(h0, .inr (1, [.null, .null, .null, .int 0, .int 0]))] zz)) 3 342 (va_A [(h0, .inr (1, [.null, .null, .null, .int 0, .int 0]))] zz) := by
  refine Met.ofW (cc := cX0_init) (maxL := 1) (ret := none) (by decide) rfl ?_
  intro p e s m args below meth c s₁ B hml hv
  obtain ⟨rfl, hsz_, hP, hK, hD0⟩ := hv
  have hx := B.exec
  have hb := B.bytes
  have hr := B.returns
  have hts := atoms_spec (ws := wsX0_init) B.pre
  have hown : s.vm.findClass RX0 = some m.cls := findClass_of_methodNamed B.named
  have hlocks := B.notSynchronized
  have hin : meth.name = "<init>" := (name_of_methodNamed B.named B.method).1
  subst hsz_
  have hD := hD0.self (sz := s.heap.size)
  generalize hAe : va_A [(h0, .inr (1, [.null, .null, .null, .int 0, .int 0]))] s.heap.size = A at hD ⊢
  have hA : ∀ q : Nat, s.heap.size ≤ q → A q := fun q h => by rw [← hAe]; exact Or.inr h
  have hS : va_S A s.heap s.heap [] := va_S.rf
  have hP : va_P D vwCl [(h0, .inr (1, [.null, .null, .null, .int 0, .int 0]))] s.heap := hP
  have hl := lv_entry ([.ref h0]) (n := 1) (Nat.le_of_ble_eq_true rfl)
  rw [lg_entry_eq]
  generalize (lg_sl ([.ref h0]) ++ List.replicate (1 - (lg_sl ([.ref h0])).length) Slot.unset).toArray = ls at hl ⊢
  have hl : lv_has ls 1 [(0, .ref h0)] := hl
  have hinR : ∀ w ∈ wsX00, w ∈ wsX0_init := by decide +kernel
  refine lv_aload_n hx hb dX0_init_0 rfl (lv_at hl 0 rfl) ?_
  refine W.objInit hx hb hown (hts (.methodLink RX0 3 objectInit) (by decide +kernel)) (hts (.instanceMethod objectInit) (by decide +kernel)) (hts _ (List.mem_cons_of_mem _ (List.mem_append_left _ (List.mem_of_getElem? (i := 2) rfl)))) rfl (by rw [hml]; exact hl.1) rfl dX0_init_1 (Nat.le_of_ble_eq_true rfl) (Nat.le_of_ble_eq_true rfl) ?_
  refine W.eq (g2 := F0 m 4 ls []) rfl ?_
  refine lv_aload_n hx hb dX0_init_4 rfl (lv_at hl 0 rfl) ?_
  refine lv_sipush (v := nI 165) hx hb dX0_init_5 (by decide) ?_
  refine va_newa (atype := .boolean) (ty := .boolean) (a0 := (165, .inl (fun _ => b2i false))) (n := nI 165) (N' := 165) hx hb (hts (.arrayClass .boolean) (by decide +kernel)) rfl hK hP hD hS hA (fun cA => (show arrV cA 165 (fun _ => .int (b2i false)) = arrV cA 165 (fun _ => defaultValue .boolean) from rfl)) (by decide +kernel) (by decide +kernel) (by decide +kernel) (by decide +kernel) (by decide +kernel) dX0_init_8 (fun q0 c0 H hK hP hD hS => ?_)
  refine W.widen (k := 1) (n := 165) (by decide +kernel) (by decide +kernel) ?_
  have hP : va_P D vwCl [(h0, .inr (1, [.null, .null, .null, .int 0, .int 0])), (q0, .inl (c0, 165, .inl (fun _ => b2i false)))] H := hP
  have hD : va_D A [(h0, .inr (1, [.null, .null, .null, .int 0, .int 0])), (q0, .inl (c0, 165, .inl (fun _ => b2i false)))] := hD
  have hK : va_K D vwCl [(c0, .boolean)] s := hK
  refine va_putF (D := D) (ci := 1) (v := .ref q0) (ty := .array .boolean) (C := RX0) (T := TX0) (N := 5) hx hb hts hinR tyX0 tyX0_ok nmX0 hown hK hP hD hS 0 rfl rfl 0 (by decide) (hts (.fieldLink RX0 9 "HarbourBoard" "isNumber" "[Z") (by decide +kernel)) (fun _ h9 => h9) rfl hin rfl (by decide +kernel) rfl rfl (Nat.le_of_ble_eq_true rfl) dX0_init_10 (fun H locs hP hD hS => ?_)
  have hP : va_P D vwCl [(h0, .inr (1, [.ref q0, .null, .null, .int 0, .int 0])), (q0, .inl (c0, 165, .inl (fun _ => b2i false)))] H := hP
  have hD : va_D A [(h0, .inr (1, [.ref q0, .null, .null, .int 0, .int 0])), (q0, .inl (c0, 165, .inl (fun _ => b2i false)))] := hD
  refine lv_aload_n hx hb dX0_init_13 rfl (lv_at hl 0 rfl) ?_
  refine lv_sipush (v := nI 165) hx hb dX0_init_14 (by decide) ?_
  refine va_newa (atype := .double) (ty := .double) (a0 := (165, .inr (.inr (.inr (.inl (fun _ => 0)))))) (n := nI 165) (N' := 165) hx hb (hts (.arrayClass .double) (by decide +kernel)) rfl hK hP hD hS hA (fun cA => (show arrV cA 165 (fun _ => .double 0) = arrV cA 165 (fun _ => defaultValue .double) from rfl)) (by decide +kernel) (by decide +kernel) (by decide +kernel) (by decide +kernel) (by decide +kernel) dX0_init_17 (fun q1 c1 H hK hP hD hS => ?_)
  refine W.widen (k := 2) (n := 330) (by decide +kernel) (by decide +kernel) ?_
  have hP : va_P D vwCl [(h0, .inr (1, [.ref q0, .null, .null, .int 0, .int 0])), (q0, .inl (c0, 165, .inl (fun _ => b2i false))), (q1, .inl (c1, 165, .inr (.inr (.inr (.inl (fun _ => 0))))))] H := hP
  have hD : va_D A [(h0, .inr (1, [.ref q0, .null, .null, .int 0, .int 0])), (q0, .inl (c0, 165, .inl (fun _ => b2i false))), (q1, .inl (c1, 165, .inr (.inr (.inr (.inl (fun _ => 0))))))] := hD
  have hK : va_K D vwCl [(c0, .boolean), (c1, .double)] s := hK
  refine va_putF (D := D) (ci := 1) (v := .ref q1) (ty := .array .double) (C := RX0) (T := TX0) (N := 5) hx hb hts hinR tyX0 tyX0_ok nmX0 hown hK hP hD hS 0 rfl rfl 1 (by decide) (hts (.fieldLink RX0 13 "HarbourBoard" "numbers" "[D") (by decide +kernel)) (fun _ h9 => h9) rfl hin rfl (by decide +kernel) rfl rfl (Nat.le_of_ble_eq_true rfl) dX0_init_19 (fun H locs hP hD hS => ?_)
  have hP : va_P D vwCl [(h0, .inr (1, [.ref q0, .ref q1, .null, .int 0, .int 0])), (q0, .inl (c0, 165, .inl (fun _ => b2i false))), (q1, .inl (c1, 165, .inr (.inr (.inr (.inl (fun _ => 0))))))] H := hP
  have hD : va_D A [(h0, .inr (1, [.ref q0, .ref q1, .null, .int 0, .int 0])), (q0, .inl (c0, 165, .inl (fun _ => b2i false))), (q1, .inl (c1, 165, .inr (.inr (.inr (.inl (fun _ => 0))))))] := hD
  refine lv_aload_n hx hb dX0_init_22 rfl (lv_at hl 0 rfl) ?_
  refine lv_bipush (v := nI 12) hx hb dX0_init_23 (by decide) ?_
  refine va_newa (atype := .int) (ty := .int) (a0 := (12, .inl (fun _ => nI 0))) (n := nI 12) (N' := 12) hx hb (hts (.arrayClass .int) (by decide +kernel)) rfl hK hP hD hS hA (fun cA => (show arrV cA 12 (fun _ => .int (nI 0)) = arrV cA 12 (fun _ => defaultValue .int) from rfl)) (by decide +kernel) (by decide +kernel) (by decide +kernel) (by decide +kernel) (by decide +kernel) dX0_init_25 (fun q2 c2 H hK hP hD hS => ?_)
  refine W.widen (k := 3) (n := 342) (by decide +kernel) (by decide +kernel) ?_
  have hP : va_P D vwCl [(h0, .inr (1, [.ref q0, .ref q1, .null, .int 0, .int 0])), (q0, .inl (c0, 165, .inl (fun _ => b2i false))), (q1, .inl (c1, 165, .inr (.inr (.inr (.inl (fun _ => 0)))))), (q2, .inl (c2, 12, .inl (fun _ => nI 0)))] H := hP
  have hD : va_D A [(h0, .inr (1, [.ref q0, .ref q1, .null, .int 0, .int 0])), (q0, .inl (c0, 165, .inl (fun _ => b2i false))), (q1, .inl (c1, 165, .inr (.inr (.inr (.inl (fun _ => 0)))))), (q2, .inl (c2, 12, .inl (fun _ => nI 0)))] := hD
  have hK : va_K D vwCl [(c0, .boolean), (c1, .double), (c2, .int)] s := hK
  refine va_putF (D := D) (ci := 1) (v := .ref q2) (ty := .array .int) (C := RX0) (T := TX0) (N := 5) hx hb hts hinR tyX0 tyX0_ok nmX0 hown hK hP hD hS 0 rfl rfl 2 (by decide) (hts (.fieldLink RX0 17 "HarbourBoard" "lengths" "[I") (by decide +kernel)) (fun _ h9 => h9) rfl hin rfl (by decide +kernel) rfl rfl (Nat.le_of_ble_eq_true rfl) dX0_init_27 (fun H locs hP hD hS => ?_)
  have hP : va_P D vwCl [(h0, .inr (1, [.ref q0, .ref q1, .ref q2, .int 0, .int 0])), (q0, .inl (c0, 165, .inl (fun _ => b2i false))), (q1, .inl (c1, 165, .inr (.inr (.inr (.inl (fun _ => 0)))))), (q2, .inl (c2, 12, .inl (fun _ => nI 0)))] H := hP
  have hD : va_D A [(h0, .inr (1, [.ref q0, .ref q1, .ref q2, .int 0, .int 0])), (q0, .inl (c0, 165, .inl (fun _ => b2i false))), (q1, .inl (c1, 165, .inr (.inr (.inr (.inl (fun _ => 0)))))), (q2, .inl (c2, 12, .inl (fun _ => nI 0)))] := hD
  refine lv_aload_n hx hb dX0_init_30 rfl (lv_at hl 0 rfl) ?_
  refine lv_iconst hx hb dX0_init_31 rfl ?_
  refine va_put (D := D) (ci := 1) (v := .int 0) (ty := .boolean) (C := RX0) (T := TX0) (N := 5) hx hb hts hinR tyX0 tyX0_ok nmX0 hown hK hP hD hS 0 rfl rfl 3 (by decide) (hts (.fieldLink RX0 21 "HarbourBoard" "gateOpen" "Z") (by decide +kernel)) (fun _ h9 => h9) rfl (by decide +kernel) rfl rfl (Nat.le_of_ble_eq_true rfl) dX0_init_32 (fun H locs hP hD hS => ?_)
  have hP : va_P D vwCl [(h0, .inr (1, [.ref q0, .ref q1, .ref q2, .int 0, .int 0])), (q0, .inl (c0, 165, .inl (fun _ => b2i false))), (q1, .inl (c1, 165, .inr (.inr (.inr (.inl (fun _ => 0)))))), (q2, .inl (c2, 12, .inl (fun _ => nI 0)))] H := hP
  have hD : va_D A [(h0, .inr (1, [.ref q0, .ref q1, .ref q2, .int 0, .int 0])), (q0, .inl (c0, 165, .inl (fun _ => b2i false))), (q1, .inl (c1, 165, .inr (.inr (.inr (.inl (fun _ => 0)))))), (q2, .inl (c2, 12, .inl (fun _ => nI 0)))] := hD
  refine lv_aload_n hx hb dX0_init_35 rfl (lv_at hl 0 rfl) ?_
  refine lv_iconst hx hb dX0_init_36 rfl ?_
  refine va_put (D := D) (ci := 1) (v := .int 0) (ty := .int) (C := RX0) (T := TX0) (N := 5) hx hb hts hinR tyX0 tyX0_ok nmX0 hown hK hP hD hS 0 rfl rfl 4 (by decide) (hts (.fieldLink RX0 25 "HarbourBoard" "moves" "I") (by decide +kernel)) (fun _ h9 => h9) rfl (by decide +kernel) rfl rfl (Nat.le_of_ble_eq_true rfl) dX0_init_37 (fun H locs hP hD hS => ?_)
  have hP : va_P D vwCl [(h0, .inr (1, [.ref q0, .ref q1, .ref q2, .int 0, .int 0])), (q0, .inl (c0, 165, .inl (fun _ => b2i false))), (q1, .inl (c1, 165, .inr (.inr (.inr (.inl (fun _ => 0)))))), (q2, .inl (c2, 12, .inl (fun _ => nI 0)))] H := hP
  have hD : va_D A [(h0, .inr (1, [.ref q0, .ref q1, .ref q2, .int 0, .int 0])), (q0, .inl (c0, 165, .inl (fun _ => b2i false))), (q1, .inl (c1, 165, .inr (.inr (.inr (.inl (fun _ => 0)))))), (q2, .inl (c2, 12, .inl (fun _ => nI 0)))] := hD
  have hP : va_P D vwCl (WB h0 q0 q1 q2 c0 c1 c2 (fun _ => false) (fun _ => 0) (fun _ => 0) false 0) H := hP
  have hD : va_D A (WB h0 q0 q1 q2 c0 c1 c2 (fun _ => false) (fun _ => 0) (fun _ => 0) false 0) := hD
  have hK : va_K D vwCl (TY c0 c1 c2) s := hK.sub [0, 1, 2] rfl
  exact W.vret hx hb hr (fun t ht hW => ⟨⟨(), rfl, trivial, q0, q1, q2, c0, c1, c2, by rw [ht]; exact hP, va_K.moved hW.alike hK, hD⟩, hS.F ht⟩) hS.2.2 dX0_init_40
abbrev at_X1 (D : va_G) (A : Nat → Prop) (h0 : Nat) (_ : Unit) (t : State) : Prop := ∃ (kv ko ks km kt kp kb : Nat) (cZ cD cI : ClassId), va_P D vwCl (WM h0 kv ko ks km kt kp kb cZ cD cI 0 (fun _ => 0) (fun _ => false) (fun _ => 0) (fun _ => 0) (fun _ => false) (fun _ => 0) (fun _ => false) false 0) t.heap ∧ va_K D vwCl (TY cZ cD cI) t ∧ va_D A (WM h0 kv ko ks km kt kp kb cZ cD cI 0 (fun _ => 0) (fun _ => false) (fun _ => 0) (fun _ => 0) (fun _ => false) (fun _ => 0) (fun _ => false) false 0)
set_option maxHeartbeats 4000000 in
set_option maxRecDepth 100000 in
theorem c_X1_init (l : Launch) (D : va_G) (h0 : Nat) (zz : Nat) : Met l yX1_init wsX1_init ({ frames := 1, cells := 7, slots := 340, locals := 12 }) (va_Pc [.ref h0] (fun U => U.heap.size = zz ∧ va_P D vwCl [(h0, .inr (2, [.int 0, .null, .null, .null, .null, .null, .null, .null, .int 0, .int 0]))] U.heap ∧ va_K D vwCl [] U ∧ va_D (fun _ => True) [(h0, .inr (2, [.int 0, .null, .null, .null, .null, .null, .null, .null, .int 0, .int 0]))])) (va_Qv (fun _ : Unit => True) (at_X1 D (va_A [(h0, .inr (2, [.int 0, .null, .null, .null, .null, .null, .null, .null, .int 0, .int 0]))] zz) h0) (va_A [(h0, .inr (2, [.int 0, .null, .null, .null, .null, .null, .null, .null, .int 0, .int 0]))] zz)) 7 340 (va_A [(h0, .inr (2, [.int 0, .null, .null, .null, .null, .null, .null, .null, .int 0, .int 0]))] zz) := by
  refine Met.ofW (cc := cX1_init) (maxL := 1) (ret := none) (by decide) rfl ?_
  intro p e s m args below meth c s₁ B hml hv
  obtain ⟨rfl, hsz_, hP, hK, hD0⟩ := hv
  have hx := B.exec
  have hb := B.bytes
  have hr := B.returns
  have hts := atoms_spec (ws := wsX1_init) B.pre
  have hown : s.vm.findClass RX1 = some m.cls := findClass_of_methodNamed B.named
  have hlocks := B.notSynchronized
  have hin : meth.name = "<init>" := (name_of_methodNamed B.named B.method).1
  subst hsz_
  have hD := hD0.self (sz := s.heap.size)
  generalize hAe : va_A [(h0, .inr (2, [.int 0, .null, .null, .null, .null, .null, .null, .null, .int 0, .int 0]))] s.heap.size = A at hD ⊢
  have hA : ∀ q : Nat, s.heap.size ≤ q → A q := fun q h => by rw [← hAe]; exact Or.inr h
  have hS : va_S A s.heap s.heap [] := va_S.rf
  have hP : va_P D vwCl [(h0, .inr (2, [.int 0, .null, .null, .null, .null, .null, .null, .null, .int 0, .int 0]))] s.heap := hP
  have hl := lv_entry ([.ref h0]) (n := 1) (Nat.le_of_ble_eq_true rfl)
  rw [lg_entry_eq]
  generalize (lg_sl ([.ref h0]) ++ List.replicate (1 - (lg_sl ([.ref h0])).length) Slot.unset).toArray = ls at hl ⊢
  have hl : lv_has ls 1 [(0, .ref h0)] := hl
  have hinR : ∀ w ∈ wsX10, w ∈ wsX1_init := by decide +kernel
  refine lv_aload_n hx hb dX1_init_0 rfl (lv_at hl 0 rfl) ?_
  refine W.objInit hx hb hown (hts (.methodLink RX1 1 objectInit) (by decide +kernel)) (hts (.instanceMethod objectInit) (by decide +kernel)) (hts _ (List.mem_cons_of_mem _ (List.mem_append_left _ (List.mem_of_getElem? (i := 2) rfl)))) rfl (by rw [hml]; exact hl.1) rfl dX1_init_1 (Nat.le_of_ble_eq_true rfl) (Nat.le_of_ble_eq_true rfl) ?_
  refine W.eq (g2 := F0 m 4 ls []) rfl ?_
  refine lv_aload_n hx hb dX1_init_4 rfl (lv_at hl 0 rfl) ?_
  refine lv_sipush (v := nI 144) hx hb dX1_init_5 (by decide) ?_
  refine va_newa (atype := .double) (ty := .double) (a0 := (144, .inr (.inr (.inr (.inl (fun _ => 0)))))) (n := nI 144) (N' := 144) hx hb (hts (.arrayClass .double) (by decide +kernel)) rfl hK hP hD hS hA (fun cA => (show arrV cA 144 (fun _ => .double 0) = arrV cA 144 (fun _ => defaultValue .double) from rfl)) (by decide +kernel) (by decide +kernel) (by decide +kernel) (by decide +kernel) (by decide +kernel) dX1_init_8 (fun q0 c0 H hK hP hD hS => ?_)
  refine W.widen (k := 1) (n := 144) (by decide +kernel) (by decide +kernel) ?_
  have hP : va_P D vwCl [(h0, .inr (2, [.int 0, .null, .null, .null, .null, .null, .null, .null, .int 0, .int 0])), (q0, .inl (c0, 144, .inr (.inr (.inr (.inl (fun _ => 0))))))] H := hP
  have hD : va_D A [(h0, .inr (2, [.int 0, .null, .null, .null, .null, .null, .null, .null, .int 0, .int 0])), (q0, .inl (c0, 144, .inr (.inr (.inr (.inl (fun _ => 0))))))] := hD
  have hK : va_K D vwCl [(c0, .double)] s := hK
  refine va_putF (D := D) (ci := 2) (v := .ref q0) (ty := .array .double) (C := RX1) (T := TX1) (N := 10) hx hb hts hinR tyX1 tyX1_ok nmX1 hown hK hP hD hS 0 rfl rfl 1 (by decide) (hts (.fieldLink RX1 7 "HarbourBoardModel" "value" "[D") (by decide +kernel)) (fun _ h9 => h9) rfl hin rfl (by decide +kernel) rfl rfl (Nat.le_of_ble_eq_true rfl) dX1_init_10 (fun H locs hP hD hS => ?_)
  have hP : va_P D vwCl [(h0, .inr (2, [.int 0, .ref q0, .null, .null, .null, .null, .null, .null, .int 0, .int 0])), (q0, .inl (c0, 144, .inr (.inr (.inr (.inl (fun _ => 0))))))] H := hP
  have hD : va_D A [(h0, .inr (2, [.int 0, .ref q0, .null, .null, .null, .null, .null, .null, .int 0, .int 0])), (q0, .inl (c0, 144, .inr (.inr (.inr (.inl (fun _ => 0))))))] := hD
  refine lv_aload_n hx hb dX1_init_13 rfl (lv_at hl 0 rfl) ?_
  refine lv_sipush (v := nI 144) hx hb dX1_init_14 (by decide) ?_
  refine va_newa (atype := .boolean) (ty := .boolean) (a0 := (144, .inl (fun _ => b2i false))) (n := nI 144) (N' := 144) hx hb (hts (.arrayClass .boolean) (by decide +kernel)) rfl hK hP hD hS hA (fun cA => (show arrV cA 144 (fun _ => .int (b2i false)) = arrV cA 144 (fun _ => defaultValue .boolean) from rfl)) (by decide +kernel) (by decide +kernel) (by decide +kernel) (by decide +kernel) (by decide +kernel) dX1_init_17 (fun q1 c1 H hK hP hD hS => ?_)
  refine W.widen (k := 2) (n := 288) (by decide +kernel) (by decide +kernel) ?_
  have hP : va_P D vwCl [(h0, .inr (2, [.int 0, .ref q0, .null, .null, .null, .null, .null, .null, .int 0, .int 0])), (q0, .inl (c0, 144, .inr (.inr (.inr (.inl (fun _ => 0)))))), (q1, .inl (c1, 144, .inl (fun _ => b2i false)))] H := hP
  have hD : va_D A [(h0, .inr (2, [.int 0, .ref q0, .null, .null, .null, .null, .null, .null, .int 0, .int 0])), (q0, .inl (c0, 144, .inr (.inr (.inr (.inl (fun _ => 0)))))), (q1, .inl (c1, 144, .inl (fun _ => b2i false)))] := hD
  have hK : va_K D vwCl [(c0, .double), (c1, .boolean)] s := hK
  refine va_putF (D := D) (ci := 2) (v := .ref q1) (ty := .array .boolean) (C := RX1) (T := TX1) (N := 10) hx hb hts hinR tyX1 tyX1_ok nmX1 hown hK hP hD hS 0 rfl rfl 2 (by decide) (hts (.fieldLink RX1 13 "HarbourBoardModel" "isOut" "[Z") (by decide +kernel)) (fun _ h9 => h9) rfl hin rfl (by decide +kernel) rfl rfl (Nat.le_of_ble_eq_true rfl) dX1_init_19 (fun H locs hP hD hS => ?_)
  have hP : va_P D vwCl [(h0, .inr (2, [.int 0, .ref q0, .ref q1, .null, .null, .null, .null, .null, .int 0, .int 0])), (q0, .inl (c0, 144, .inr (.inr (.inr (.inl (fun _ => 0)))))), (q1, .inl (c1, 144, .inl (fun _ => b2i false)))] H := hP
  have hD : va_D A [(h0, .inr (2, [.int 0, .ref q0, .ref q1, .null, .null, .null, .null, .null, .int 0, .int 0])), (q0, .inl (c0, 144, .inr (.inr (.inr (.inl (fun _ => 0)))))), (q1, .inl (c1, 144, .inl (fun _ => b2i false)))] := hD
  refine lv_aload_n hx hb dX1_init_22 rfl (lv_at hl 0 rfl) ?_
  refine lv_bipush (v := nI 12) hx hb dX1_init_23 (by decide) ?_
  refine va_newa (atype := .int) (ty := .int) (a0 := (12, .inl (fun _ => nI 0))) (n := nI 12) (N' := 12) hx hb (hts (.arrayClass .int) (by decide +kernel)) rfl hK hP hD hS hA (fun cA => (show arrV cA 12 (fun _ => .int (nI 0)) = arrV cA 12 (fun _ => defaultValue .int) from rfl)) (by decide +kernel) (by decide +kernel) (by decide +kernel) (by decide +kernel) (by decide +kernel) dX1_init_25 (fun q2 c2 H hK hP hD hS => ?_)
  refine W.widen (k := 3) (n := 300) (by decide +kernel) (by decide +kernel) ?_
  have hP : va_P D vwCl [(h0, .inr (2, [.int 0, .ref q0, .ref q1, .null, .null, .null, .null, .null, .int 0, .int 0])), (q0, .inl (c0, 144, .inr (.inr (.inr (.inl (fun _ => 0)))))), (q1, .inl (c1, 144, .inl (fun _ => b2i false))), (q2, .inl (c2, 12, .inl (fun _ => nI 0)))] H := hP
  have hD : va_D A [(h0, .inr (2, [.int 0, .ref q0, .ref q1, .null, .null, .null, .null, .null, .int 0, .int 0])), (q0, .inl (c0, 144, .inr (.inr (.inr (.inl (fun _ => 0)))))), (q1, .inl (c1, 144, .inl (fun _ => b2i false))), (q2, .inl (c2, 12, .inl (fun _ => nI 0)))] := hD
  have hK : va_K D vwCl [(c0, .double), (c1, .boolean), (c2, .int)] s := hK
  refine va_putF (D := D) (ci := 2) (v := .ref q2) (ty := .array .int) (C := RX1) (T := TX1) (N := 10) hx hb hts hinR tyX1 tyX1_ok nmX1 hown hK hP hD hS 0 rfl rfl 3 (by decide) (hts (.fieldLink RX1 17 "HarbourBoardModel" "sizes" "[I") (by decide +kernel)) (fun _ h9 => h9) rfl hin rfl (by decide +kernel) rfl rfl (Nat.le_of_ble_eq_true rfl) dX1_init_27 (fun H locs hP hD hS => ?_)
  have hP : va_P D vwCl [(h0, .inr (2, [.int 0, .ref q0, .ref q1, .ref q2, .null, .null, .null, .null, .int 0, .int 0])), (q0, .inl (c0, 144, .inr (.inr (.inr (.inl (fun _ => 0)))))), (q1, .inl (c1, 144, .inl (fun _ => b2i false))), (q2, .inl (c2, 12, .inl (fun _ => nI 0)))] H := hP
  have hD : va_D A [(h0, .inr (2, [.int 0, .ref q0, .ref q1, .ref q2, .null, .null, .null, .null, .int 0, .int 0])), (q0, .inl (c0, 144, .inr (.inr (.inr (.inl (fun _ => 0)))))), (q1, .inl (c1, 144, .inl (fun _ => b2i false))), (q2, .inl (c2, 12, .inl (fun _ => nI 0)))] := hD
  refine lv_aload_n hx hb dX1_init_30 rfl (lv_at hl 0 rfl) ?_
  refine lv_bipush (v := nI 18) hx hb dX1_init_31 (by decide) ?_
  refine va_newa (atype := .double) (ty := .double) (a0 := (18, .inr (.inr (.inr (.inl (fun _ => 0)))))) (n := nI 18) (N' := 18) hx hb (hts (.arrayClass .double) (by decide +kernel)) rfl hK hP hD hS hA (fun cA => (show arrV cA 18 (fun _ => .double 0) = arrV cA 18 (fun _ => defaultValue .double) from rfl)) (by decide +kernel) (by decide +kernel) (by decide +kernel) (by decide +kernel) (by decide +kernel) dX1_init_33 (fun q3 c3 H hK hP hD hS => ?_)
  refine W.widen (k := 4) (n := 318) (by decide +kernel) (by decide +kernel) ?_
  have hP : va_P D vwCl [(h0, .inr (2, [.int 0, .ref q0, .ref q1, .ref q2, .null, .null, .null, .null, .int 0, .int 0])), (q0, .inl (c0, 144, .inr (.inr (.inr (.inl (fun _ => 0)))))), (q1, .inl (c1, 144, .inl (fun _ => b2i false))), (q2, .inl (c2, 12, .inl (fun _ => nI 0))), (q3, .inl (c3, 18, .inr (.inr (.inr (.inl (fun _ => 0))))))] H := hP
  have hD : va_D A [(h0, .inr (2, [.int 0, .ref q0, .ref q1, .ref q2, .null, .null, .null, .null, .int 0, .int 0])), (q0, .inl (c0, 144, .inr (.inr (.inr (.inl (fun _ => 0)))))), (q1, .inl (c1, 144, .inl (fun _ => b2i false))), (q2, .inl (c2, 12, .inl (fun _ => nI 0))), (q3, .inl (c3, 18, .inr (.inr (.inr (.inl (fun _ => 0))))))] := hD
  have hK : va_K D vwCl [(c0, .double), (c1, .boolean), (c2, .int), (c3, .double)] s := hK
  refine va_putF (D := D) (ci := 2) (v := .ref q3) (ty := .array .double) (C := RX1) (T := TX1) (N := 10) hx hb hts hinR tyX1 tyX1_ok nmX1 hown hK hP hD hS 0 rfl rfl 4 (by decide) (hts (.fieldLink RX1 21 "HarbourBoardModel" "markValue" "[D") (by decide +kernel)) (fun _ h9 => h9) rfl hin rfl (by decide +kernel) rfl rfl (Nat.le_of_ble_eq_true rfl) dX1_init_35 (fun H locs hP hD hS => ?_)
  have hP : va_P D vwCl [(h0, .inr (2, [.int 0, .ref q0, .ref q1, .ref q2, .ref q3, .null, .null, .null, .int 0, .int 0])), (q0, .inl (c0, 144, .inr (.inr (.inr (.inl (fun _ => 0)))))), (q1, .inl (c1, 144, .inl (fun _ => b2i false))), (q2, .inl (c2, 12, .inl (fun _ => nI 0))), (q3, .inl (c3, 18, .inr (.inr (.inr (.inl (fun _ => 0))))))] H := hP
  have hD : va_D A [(h0, .inr (2, [.int 0, .ref q0, .ref q1, .ref q2, .ref q3, .null, .null, .null, .int 0, .int 0])), (q0, .inl (c0, 144, .inr (.inr (.inr (.inl (fun _ => 0)))))), (q1, .inl (c1, 144, .inl (fun _ => b2i false))), (q2, .inl (c2, 12, .inl (fun _ => nI 0))), (q3, .inl (c3, 18, .inr (.inr (.inr (.inl (fun _ => 0))))))] := hD
  refine lv_aload_n hx hb dX1_init_38 rfl (lv_at hl 0 rfl) ?_
  refine lv_bipush (v := nI 18) hx hb dX1_init_39 (by decide) ?_
  refine va_newa (atype := .boolean) (ty := .boolean) (a0 := (18, .inl (fun _ => b2i false))) (n := nI 18) (N' := 18) hx hb (hts (.arrayClass .boolean) (by decide +kernel)) rfl hK hP hD hS hA (fun cA => (show arrV cA 18 (fun _ => .int (b2i false)) = arrV cA 18 (fun _ => defaultValue .boolean) from rfl)) (by decide +kernel) (by decide +kernel) (by decide +kernel) (by decide +kernel) (by decide +kernel) dX1_init_41 (fun q4 c4 H hK hP hD hS => ?_)
  refine W.widen (k := 5) (n := 336) (by decide +kernel) (by decide +kernel) ?_
  have hP : va_P D vwCl [(h0, .inr (2, [.int 0, .ref q0, .ref q1, .ref q2, .ref q3, .null, .null, .null, .int 0, .int 0])), (q0, .inl (c0, 144, .inr (.inr (.inr (.inl (fun _ => 0)))))), (q1, .inl (c1, 144, .inl (fun _ => b2i false))), (q2, .inl (c2, 12, .inl (fun _ => nI 0))), (q3, .inl (c3, 18, .inr (.inr (.inr (.inl (fun _ => 0)))))), (q4, .inl (c4, 18, .inl (fun _ => b2i false)))] H := hP
  have hD : va_D A [(h0, .inr (2, [.int 0, .ref q0, .ref q1, .ref q2, .ref q3, .null, .null, .null, .int 0, .int 0])), (q0, .inl (c0, 144, .inr (.inr (.inr (.inl (fun _ => 0)))))), (q1, .inl (c1, 144, .inl (fun _ => b2i false))), (q2, .inl (c2, 12, .inl (fun _ => nI 0))), (q3, .inl (c3, 18, .inr (.inr (.inr (.inl (fun _ => 0)))))), (q4, .inl (c4, 18, .inl (fun _ => b2i false)))] := hD
  have hK : va_K D vwCl [(c0, .double), (c1, .boolean), (c2, .int), (c3, .double), (c4, .boolean)] s := hK
  refine va_putF (D := D) (ci := 2) (v := .ref q4) (ty := .array .boolean) (C := RX1) (T := TX1) (N := 10) hx hb hts hinR tyX1 tyX1_ok nmX1 hown hK hP hD hS 0 rfl rfl 5 (by decide) (hts (.fieldLink RX1 24 "HarbourBoardModel" "isSet" "[Z") (by decide +kernel)) (fun _ h9 => h9) rfl hin rfl (by decide +kernel) rfl rfl (Nat.le_of_ble_eq_true rfl) dX1_init_43 (fun H locs hP hD hS => ?_)
  have hP : va_P D vwCl [(h0, .inr (2, [.int 0, .ref q0, .ref q1, .ref q2, .ref q3, .ref q4, .null, .null, .int 0, .int 0])), (q0, .inl (c0, 144, .inr (.inr (.inr (.inl (fun _ => 0)))))), (q1, .inl (c1, 144, .inl (fun _ => b2i false))), (q2, .inl (c2, 12, .inl (fun _ => nI 0))), (q3, .inl (c3, 18, .inr (.inr (.inr (.inl (fun _ => 0)))))), (q4, .inl (c4, 18, .inl (fun _ => b2i false)))] H := hP
  have hD : va_D A [(h0, .inr (2, [.int 0, .ref q0, .ref q1, .ref q2, .ref q3, .ref q4, .null, .null, .int 0, .int 0])), (q0, .inl (c0, 144, .inr (.inr (.inr (.inl (fun _ => 0)))))), (q1, .inl (c1, 144, .inl (fun _ => b2i false))), (q2, .inl (c2, 12, .inl (fun _ => nI 0))), (q3, .inl (c3, 18, .inr (.inr (.inr (.inl (fun _ => 0)))))), (q4, .inl (c4, 18, .inl (fun _ => b2i false)))] := hD
  refine lv_aload_n hx hb dX1_init_46 rfl (lv_at hl 0 rfl) ?_
  refine lv_iconst (v := nI 2) hx hb dX1_init_47 (by decide) ?_
  refine va_newa (atype := .double) (ty := .double) (a0 := (2, .inr (.inr (.inr (.inl (fun _ => 0)))))) (n := nI 2) (N' := 2) hx hb (hts (.arrayClass .double) (by decide +kernel)) rfl hK hP hD hS hA (fun cA => (show arrV cA 2 (fun _ => .double 0) = arrV cA 2 (fun _ => defaultValue .double) from rfl)) (by decide +kernel) (by decide +kernel) (by decide +kernel) (by decide +kernel) (by decide +kernel) dX1_init_48 (fun q5 c5 H hK hP hD hS => ?_)
  refine W.widen (k := 6) (n := 338) (by decide +kernel) (by decide +kernel) ?_
  have hP : va_P D vwCl [(h0, .inr (2, [.int 0, .ref q0, .ref q1, .ref q2, .ref q3, .ref q4, .null, .null, .int 0, .int 0])), (q0, .inl (c0, 144, .inr (.inr (.inr (.inl (fun _ => 0)))))), (q1, .inl (c1, 144, .inl (fun _ => b2i false))), (q2, .inl (c2, 12, .inl (fun _ => nI 0))), (q3, .inl (c3, 18, .inr (.inr (.inr (.inl (fun _ => 0)))))), (q4, .inl (c4, 18, .inl (fun _ => b2i false))), (q5, .inl (c5, 2, .inr (.inr (.inr (.inl (fun _ => 0))))))] H := hP
  have hD : va_D A [(h0, .inr (2, [.int 0, .ref q0, .ref q1, .ref q2, .ref q3, .ref q4, .null, .null, .int 0, .int 0])), (q0, .inl (c0, 144, .inr (.inr (.inr (.inl (fun _ => 0)))))), (q1, .inl (c1, 144, .inl (fun _ => b2i false))), (q2, .inl (c2, 12, .inl (fun _ => nI 0))), (q3, .inl (c3, 18, .inr (.inr (.inr (.inl (fun _ => 0)))))), (q4, .inl (c4, 18, .inl (fun _ => b2i false))), (q5, .inl (c5, 2, .inr (.inr (.inr (.inl (fun _ => 0))))))] := hD
  have hK : va_K D vwCl [(c0, .double), (c1, .boolean), (c2, .int), (c3, .double), (c4, .boolean), (c5, .double)] s := hK
  refine va_putF (D := D) (ci := 2) (v := .ref q5) (ty := .array .double) (C := RX1) (T := TX1) (N := 10) hx hb hts hinR tyX1 tyX1_ok nmX1 hown hK hP hD hS 0 rfl rfl 6 (by decide) (hts (.fieldLink RX1 27 "HarbourBoardModel" "probeValue" "[D") (by decide +kernel)) (fun _ h9 => h9) rfl hin rfl (by decide +kernel) rfl rfl (Nat.le_of_ble_eq_true rfl) dX1_init_50 (fun H locs hP hD hS => ?_)
  have hP : va_P D vwCl [(h0, .inr (2, [.int 0, .ref q0, .ref q1, .ref q2, .ref q3, .ref q4, .ref q5, .null, .int 0, .int 0])), (q0, .inl (c0, 144, .inr (.inr (.inr (.inl (fun _ => 0)))))), (q1, .inl (c1, 144, .inl (fun _ => b2i false))), (q2, .inl (c2, 12, .inl (fun _ => nI 0))), (q3, .inl (c3, 18, .inr (.inr (.inr (.inl (fun _ => 0)))))), (q4, .inl (c4, 18, .inl (fun _ => b2i false))), (q5, .inl (c5, 2, .inr (.inr (.inr (.inl (fun _ => 0))))))] H := hP
  have hD : va_D A [(h0, .inr (2, [.int 0, .ref q0, .ref q1, .ref q2, .ref q3, .ref q4, .ref q5, .null, .int 0, .int 0])), (q0, .inl (c0, 144, .inr (.inr (.inr (.inl (fun _ => 0)))))), (q1, .inl (c1, 144, .inl (fun _ => b2i false))), (q2, .inl (c2, 12, .inl (fun _ => nI 0))), (q3, .inl (c3, 18, .inr (.inr (.inr (.inl (fun _ => 0)))))), (q4, .inl (c4, 18, .inl (fun _ => b2i false))), (q5, .inl (c5, 2, .inr (.inr (.inr (.inl (fun _ => 0))))))] := hD
  refine lv_aload_n hx hb dX1_init_53 rfl (lv_at hl 0 rfl) ?_
  refine lv_iconst (v := nI 2) hx hb dX1_init_54 (by decide) ?_
  refine va_newa (atype := .boolean) (ty := .boolean) (a0 := (2, .inl (fun _ => b2i false))) (n := nI 2) (N' := 2) hx hb (hts (.arrayClass .boolean) (by decide +kernel)) rfl hK hP hD hS hA (fun cA => (show arrV cA 2 (fun _ => .int (b2i false)) = arrV cA 2 (fun _ => defaultValue .boolean) from rfl)) (by decide +kernel) (by decide +kernel) (by decide +kernel) (by decide +kernel) (by decide +kernel) dX1_init_55 (fun q6 c6 H hK hP hD hS => ?_)
  refine W.widen (k := 7) (n := 340) (by decide +kernel) (by decide +kernel) ?_
  have hP : va_P D vwCl [(h0, .inr (2, [.int 0, .ref q0, .ref q1, .ref q2, .ref q3, .ref q4, .ref q5, .null, .int 0, .int 0])), (q0, .inl (c0, 144, .inr (.inr (.inr (.inl (fun _ => 0)))))), (q1, .inl (c1, 144, .inl (fun _ => b2i false))), (q2, .inl (c2, 12, .inl (fun _ => nI 0))), (q3, .inl (c3, 18, .inr (.inr (.inr (.inl (fun _ => 0)))))), (q4, .inl (c4, 18, .inl (fun _ => b2i false))), (q5, .inl (c5, 2, .inr (.inr (.inr (.inl (fun _ => 0)))))), (q6, .inl (c6, 2, .inl (fun _ => b2i false)))] H := hP
  have hD : va_D A [(h0, .inr (2, [.int 0, .ref q0, .ref q1, .ref q2, .ref q3, .ref q4, .ref q5, .null, .int 0, .int 0])), (q0, .inl (c0, 144, .inr (.inr (.inr (.inl (fun _ => 0)))))), (q1, .inl (c1, 144, .inl (fun _ => b2i false))), (q2, .inl (c2, 12, .inl (fun _ => nI 0))), (q3, .inl (c3, 18, .inr (.inr (.inr (.inl (fun _ => 0)))))), (q4, .inl (c4, 18, .inl (fun _ => b2i false))), (q5, .inl (c5, 2, .inr (.inr (.inr (.inl (fun _ => 0)))))), (q6, .inl (c6, 2, .inl (fun _ => b2i false)))] := hD
  have hK : va_K D vwCl [(c0, .double), (c1, .boolean), (c2, .int), (c3, .double), (c4, .boolean), (c5, .double), (c6, .boolean)] s := hK
  refine va_putF (D := D) (ci := 2) (v := .ref q6) (ty := .array .boolean) (C := RX1) (T := TX1) (N := 10) hx hb hts hinR tyX1 tyX1_ok nmX1 hown hK hP hD hS 0 rfl rfl 7 (by decide) (hts (.fieldLink RX1 30 "HarbourBoardModel" "isProbed" "[Z") (by decide +kernel)) (fun _ h9 => h9) rfl hin rfl (by decide +kernel) rfl rfl (Nat.le_of_ble_eq_true rfl) dX1_init_57 (fun H locs hP hD hS => ?_)
  have hP : va_P D vwCl [(h0, .inr (2, [.int 0, .ref q0, .ref q1, .ref q2, .ref q3, .ref q4, .ref q5, .ref q6, .int 0, .int 0])), (q0, .inl (c0, 144, .inr (.inr (.inr (.inl (fun _ => 0)))))), (q1, .inl (c1, 144, .inl (fun _ => b2i false))), (q2, .inl (c2, 12, .inl (fun _ => nI 0))), (q3, .inl (c3, 18, .inr (.inr (.inr (.inl (fun _ => 0)))))), (q4, .inl (c4, 18, .inl (fun _ => b2i false))), (q5, .inl (c5, 2, .inr (.inr (.inr (.inl (fun _ => 0)))))), (q6, .inl (c6, 2, .inl (fun _ => b2i false)))] H := hP
  have hD : va_D A [(h0, .inr (2, [.int 0, .ref q0, .ref q1, .ref q2, .ref q3, .ref q4, .ref q5, .ref q6, .int 0, .int 0])), (q0, .inl (c0, 144, .inr (.inr (.inr (.inl (fun _ => 0)))))), (q1, .inl (c1, 144, .inl (fun _ => b2i false))), (q2, .inl (c2, 12, .inl (fun _ => nI 0))), (q3, .inl (c3, 18, .inr (.inr (.inr (.inl (fun _ => 0)))))), (q4, .inl (c4, 18, .inl (fun _ => b2i false))), (q5, .inl (c5, 2, .inr (.inr (.inr (.inl (fun _ => 0)))))), (q6, .inl (c6, 2, .inl (fun _ => b2i false)))] := hD
  obtain rfl : c0 = c3 := ra_same rfl rfl (hK.2 0 _ rfl).2 (hK.2 3 _ rfl).2
  obtain rfl : c1 = c4 := ra_same rfl rfl (hK.2 1 _ rfl).2 (hK.2 4 _ rfl).2
  obtain rfl : c0 = c5 := ra_same rfl rfl (hK.2 0 _ rfl).2 (hK.2 5 _ rfl).2
  obtain rfl : c1 = c6 := ra_same rfl rfl (hK.2 1 _ rfl).2 (hK.2 6 _ rfl).2
  have hP : va_P D vwCl (WM h0 q0 q1 q2 q3 q4 q5 q6 c1 c0 c2 0 (fun _ => 0) (fun _ => false) (fun _ => 0) (fun _ => 0) (fun _ => false) (fun _ => 0) (fun _ => false) false 0) H := hP
  have hD : va_D A (WM h0 q0 q1 q2 q3 q4 q5 q6 c1 c0 c2 0 (fun _ => 0) (fun _ => false) (fun _ => 0) (fun _ => 0) (fun _ => false) (fun _ => 0) (fun _ => false) false 0) := hD
  have hK : va_K D vwCl (TY c1 c0 c2) s := hK.sub [1, 0, 2] rfl
  exact W.vret hx hb hr (fun t ht hW => ⟨⟨(), rfl, trivial, q0, q1, q2, q3, q4, q5, q6, c1, c0, c2, by rw [ht]; exact hP, va_K.moved hW.alike hK, hD⟩, hS.F ht⟩) hS.2.2 dX1_init_60
