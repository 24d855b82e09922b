/-! From the law's entry to its loop; the claim. -/
theorem law_D {args : Array Value} {s : State} (hts : ∀ w ∈ lw_tbl, w.before args s = true) : ∃ D : va_G, va_K D vwCl [] s := by
  obtain ⟨c0, iS0, hKn0⟩ := u_known (C := RJ0) (T := TJ0) (N := 2) (n := 4) hts (by decide +kernel) (hts (.instantiable RJ0 4) (by decide +kernel))
  obtain ⟨c1, iS1, hKn1⟩ := u_known (C := RX0) (T := TX0) (N := 5) (n := 5) hts (by decide +kernel) (hts (.instantiable RX0 5) (by decide +kernel))
  obtain ⟨c2, iS2, hKn2⟩ := u_known (C := RX1) (T := TX1) (N := 10) (n := 10) hts (by decide +kernel) (hts (.instantiable RX1 10) (by decide +kernel))
  refine ⟨(fun k => if k = 0 then c0 else if k = 1 then c1 else c2, fun k => if k = 0 then iS0 else if k = 1 then iS1 else iS2), ?_, fun k q h => by simp at h⟩
  intro k q hq
  match k, hq with
  | 0, hq => cases hq; exact hKn0
  | 1, hq => cases hq; exact hKn1
  | 2, hq => cases hq; exact hKn2
  | k + 3, hq => simp [vwCl] at hq
set_option maxHeartbeats 4000000 in
set_option maxRecDepth 100000 in
theorem whole_start {p : Program} {e : Env} {s : State} {m : MethodId} {below : List Frame} {meth : Method} {c : Code} (l : Launch) (hl0 : l.stackTraces = false) {b L : Nat} {xs : Nat → Int32} (hL : L ≤ 2560) (C0 : lw_At p s m meth c b L xs) : W p l e room_1 s m #[Value.ref b] below meth c s.heap [] 0 0 (lw_Z below #[Value.ref b] s) (entryFrame m ([Value.ref b] : List Value).toArray 9) := by
  obtain ⟨hx, hb, hr, hml, hown, hts0, hX, hbl, hlocks, hgv⟩ := id C0
  have hown : s.vm.findClass RL = some m.cls := hown
  have hb : c.code = cL_law := hb
  have hts : ∀ w ∈ wsL_law, w.before #[Value.ref b] s = true := fun w h => hts0 w (wsL_law_in w h)
  have C : LwC l p s m meth c b L xs := ⟨hx, hb, hr, hml, hown, hts, hX, hbl, hlocks, hl0, law_xZ hts0 hgv, law_xS hts0 hgv, law_xD hts0, law_xN hgv⟩
  obtain ⟨D, hK⟩ := law_D hts0
  have hA : ∀ q : Nat, s.heap.size ≤ q → (fun q : Nat => s.heap.size ≤ q) q := fun _ h => h
  have hS : va_S (fun q : Nat => s.heap.size ≤ q) s.heap s.heap [] := va_S.rf
  have hP : va_P D vwCl [] s.heap := fun k q h => by simp at h
  have hD : va_D (fun q : Nat => s.heap.size ≤ q) [] := ⟨fun i j p q h => by simp at h, fun k q h => by simp at h⟩
  have hl := lv_entry ([.ref b]) (n := 9) (Nat.le_of_ble_eq_true rfl)
  rw [lg_entry_eq]
  generalize (lg_sl ([.ref b]) ++ List.replicate (9 - (lg_sl ([.ref b])).length) Slot.unset).toArray = ls at hl ⊢
  have hl : lv_has ls 9 [(0, .ref b)] := hl
  refine va_new (ci := 1) (fs := [.null, .null, .null, .int 0, .int 0]) (C := RX0) (T := TX0) (N := 5) hx hb hts (by decide +kernel) tyX0 tyX0_ok hown (hts (.classLink RL 8 RX0) (by decide +kernel)) (hts (.instantiable RX0 5) (by decide +kernel)) (hts (.initialized RX0) (by decide +kernel)) hK hP hD hS hA rfl (fun j hj => by rcases (show j = 0 ∨ j = 1 ∨ j = 2 ∨ j = 3 ∨ j = 4 by omega) with rfl | rfl | rfl | rfl | rfl <;> rfl) (by decide +kernel) (by decide +kernel) dL_law_0 (fun h0 H hP hD hS => ?_)
  have hP : va_P D vwCl [(h0, .inr (1, [.null, .null, .null, .int 0, .int 0]))] H := hP
  have hD : va_D (fun q : Nat => s.heap.size ≤ q) [(h0, .inr (1, [.null, .null, .null, .int 0, .int 0]))] := hD
  refine W.widen (k := 1) (n := 5) (by decide +kernel) (by decide +kernel) ?_
  refine lv_dup hx hb dL_law_3 rfl ?_
  have hFc := va_free (wc := [(h0, .inr (1, [.null, .null, .null, .int 0, .int 0]))]) hD hS hA [0] rfl
  refine va_callv (va_runI (As := []) (rest := [.ref h0]) ⟨hx, hb, hml, hown, hts⟩ (c_X0_init l D h0 H.size) (cwI 0 hts gL_law_X0_init rfl rfl rfl (hts (.initialized RX0) (by decide +kernel)) (hts (.methodLink RL 97 yX0_init) (by decide +kernel)) (hts (.instanceMethod yX0_init) (by decide +kernel)) rfl (by decide +kernel) ⟨Nat.le_of_ble_eq_true rfl, Nat.le_of_ble_eq_true rfl⟩) ⟨fun a U g mk q => by obtain ⟨q0, q1, qP, qK, qD⟩ := q; exact ⟨q0, q1, qP, va_K.moved (u := U) (U := U.calling g mk a) (Vm.Alike.refl U.vm) qK, qD⟩, fun U hU hW => ⟨rfl, by rw [hU], by rw [hU]; exact hP, va_K.moved hW.alike hK, hD.weaken (fun _ _ _ _ => trivial)⟩⟩ rfl rfl hl.1 rfl (lv_room (Nat.le_of_ble_eq_true rfl)) dL_law_4 ⟨by decide +kernel, by decide +kernel⟩) hS (fun q _ h => hFc q h) hFc (fun u t H1 locs ht hvm hw hB hz1 hk1 hS => ?_)
  obtain ⟨hn, hd, hq, cZ, cD, cI, hP1, hK1, hD1⟩ := hB
  rw [ht] at hP1
  have hK1 := va_K.moved hvm.symm hK1
  obtain ⟨hP, hD⟩ := va_join (wr := []) (w1 := WB h0 hn hd hq cZ cD cI (fun _ => false) (fun _ => 0) (fun _ => 0) false 0) hP hD [0] [] rfl rfl (by decide) (by decide) hk1 hFc hP1 hD1
  have hK : va_K D vwCl (TY cZ cD cI) s := hK1
  generalize H1 = H at hP hS ⊢
  have hP : va_P D vwCl (WB h0 hn hd hq cZ cD cI (fun _ => false) (fun _ => 0) (fun _ => 0) false 0) H := hP
  have hD : va_D (fun q : Nat => s.heap.size ≤ q) (WB h0 hn hd hq cZ cD cI (fun _ => false) (fun _ => 0) (fun _ => 0) false 0) := hD
  refine W.widen (k := 4) (n := 347) (by decide +kernel) (by decide +kernel) ?_
  refine lv_astore_n (lv' := [(1, .ref h0), (0, .ref b)]) hx hb dL_law_7 rfl hl (by decide) rfl (fun ls hl => ?_)
  refine va_new (ci := 2) (fs := [.int 0, .null, .null, .null, .null, .null, .null, .null, .int 0, .int 0]) (C := RX1) (T := TX1) (N := 10) hx hb hts (by decide +kernel) tyX1 tyX1_ok hown (hts (.classLink RL 98 RX1) (by decide +kernel)) (hts (.instantiable RX1 10) (by decide +kernel)) (hts (.initialized RX1) (by decide +kernel)) hK hP hD hS hA rfl (fun j hj => by rcases (show j = 0 ∨ j = 1 ∨ j = 2 ∨ j = 3 ∨ j = 4 ∨ j = 5 ∨ j = 6 ∨ j = 7 ∨ j = 8 ∨ j = 9 by omega) with rfl | rfl | rfl | rfl | rfl | rfl | rfl | rfl | rfl | rfl <;> rfl) (by decide +kernel) (by decide +kernel) dL_law_8 (fun k0 H hP hD hS => ?_)
  have hP : va_P D vwCl (WB h0 hn hd hq cZ cD cI (fun _ => false) (fun _ => 0) (fun _ => 0) false 0 ++ [(k0, .inr (2, [.int 0, .null, .null, .null, .null, .null, .null, .null, .int 0, .int 0]))]) H := hP
  have hD : va_D (fun q : Nat => s.heap.size ≤ q) (WB h0 hn hd hq cZ cD cI (fun _ => false) (fun _ => 0) (fun _ => 0) false 0 ++ [(k0, .inr (2, [.int 0, .null, .null, .null, .null, .null, .null, .null, .int 0, .int 0]))]) := hD
  refine W.widen (k := 5) (n := 357) (by decide +kernel) (by decide +kernel) ?_
  refine lv_dup hx hb dL_law_11 rfl ?_
  have hPc : va_P D vwCl [(k0, .inr (2, [.int 0, .null, .null, .null, .null, .null, .null, .null, .int 0, .int 0]))] H := hP.sub [4] rfl
  have hDc : va_D (fun q : Nat => s.heap.size ≤ q) [(k0, .inr (2, [.int 0, .null, .null, .null, .null, .null, .null, .null, .int 0, .int 0]))] := hD.sub [4] (by decide) rfl
  have hKc : va_K D vwCl [] s := hK.sub [] rfl
  have hFc := va_free (wc := [(k0, .inr (2, [.int 0, .null, .null, .null, .null, .null, .null, .null, .int 0, .int 0]))]) hD hS hA [4] rfl
  refine va_callv (va_runI (As := []) (rest := [.ref k0]) ⟨hx, hb, hml, hown, hts⟩ (c_X1_init l D k0 H.size) (cwI 0 hts gL_law_X1_init rfl rfl rfl (hts (.initialized RX1) (by decide +kernel)) (hts (.methodLink RL 100 yX1_init) (by decide +kernel)) (hts (.instanceMethod yX1_init) (by decide +kernel)) rfl (by decide +kernel) ⟨Nat.le_of_ble_eq_true rfl, Nat.le_of_ble_eq_true rfl⟩) ⟨fun a U g mk q => by obtain ⟨q0, q1, qP, qK, qD⟩ := q; exact ⟨q0, q1, qP, va_K.moved (u := U) (U := U.calling g mk a) (Vm.Alike.refl U.vm) qK, qD⟩, fun U hU hW => ⟨rfl, by rw [hU], by rw [hU]; exact hPc, va_K.moved hW.alike hKc, hDc.weaken (fun _ _ _ _ => trivial)⟩⟩ rfl rfl hl.1 rfl (lv_room (Nat.le_of_ble_eq_true rfl)) dL_law_12 ⟨by decide +kernel, by decide +kernel⟩) hS (fun q _ h => hFc q h) hFc (fun u t H1 locs ht hvm hw hB hz1 hk1 hS => ?_)
  obtain ⟨kv, ko, ks, km, kt, kp, kb, cZ2, cD2, cI2, hP1, hK1, hD1⟩ := hB
  rw [ht] at hP1
  have hK1 := va_K.moved hvm.symm hK1
  obtain ⟨hP, hD⟩ := va_join (wr := WB h0 hn hd hq cZ cD cI (fun _ => false) (fun _ => 0) (fun _ => 0) false 0) (w1 := WM k0 kv ko ks km kt kp kb cZ2 cD2 cI2 0 (fun _ => 0) (fun _ => false) (fun _ => 0) (fun _ => 0) (fun _ => false) (fun _ => 0) (fun _ => false) false 0) hP hD [4] [0, 1, 2, 3] rfl rfl (by decide) (by decide) hk1 hFc hP1 hD1
  obtain rfl : cZ = cZ2 := ra_same rfl rfl (hK.2 0 _ rfl).2 (hK1.2 0 _ rfl).2
  obtain rfl : cD = cD2 := ra_same rfl rfl (hK.2 1 _ rfl).2 (hK1.2 1 _ rfl).2
  obtain rfl : cI = cI2 := ra_same rfl rfl (hK.2 2 _ rfl).2 (hK1.2 2 _ rfl).2
  generalize H1 = H at hP hS ⊢
  have hP : va_P D vwCl (WB h0 hn hd hq cZ cD cI (fun _ => false) (fun _ => 0) (fun _ => 0) false 0 ++ WM k0 kv ko ks km kt kp kb cZ cD cI 0 (fun _ => 0) (fun _ => false) (fun _ => 0) (fun _ => 0) (fun _ => false) (fun _ => 0) (fun _ => false) false 0) H := hP
  have hD : va_D (fun q : Nat => s.heap.size ≤ q) (WB h0 hn hd hq cZ cD cI (fun _ => false) (fun _ => 0) (fun _ => 0) false 0 ++ WM k0 kv ko ks km kt kp kb cZ cD cI 0 (fun _ => 0) (fun _ => false) (fun _ => 0) (fun _ => 0) (fun _ => false) (fun _ => 0) (fun _ => false) false 0) := hD
  refine W.widen (k := 12) (n := 697) (by decide +kernel) (by decide +kernel) ?_
  refine lv_astore_n (lv' := [(2, .ref k0), (1, .ref h0), (0, .ref b)]) hx hb dL_law_15 rfl hl (by decide) rfl (fun ls hl => ?_)
  refine lv_iconst (v := nI 1) hx hb dL_law_16 (by decide) ?_
  refine va_newa (atype := .long) (ty := .long) (a0 := (1, .inr (.inl (fun _ => 0)))) (n := nI 1) (N' := 1) hx hb (hts (.arrayClass .long) (by decide +kernel)) rfl hK hP hD hS hA (fun cA => (show arrV cA 1 (fun _ => .long 0) = arrV cA 1 (fun _ => defaultValue .long) from rfl)) (by decide +kernel) (by decide +kernel) (by decide +kernel) (by decide +kernel) (by decide +kernel) dL_law_17 (fun qo cJ H hK hP hD hS => ?_)
  have hK : va_K D vwCl (TYL cZ cD cI cJ) s := hK
  refine W.widen (k := 13) (n := 698) (by decide +kernel) (by decide +kernel) ?_
  refine lv_astore_n (lv' := [(3, .ref qo), (2, .ref k0), (1, .ref h0), (0, .ref b)]) hx hb dL_law_19 rfl hl (by decide) rfl (fun ls hl => ?_)
  refine lv_iconst (v := nI 1) hx hb dL_law_20 (by decide) ?_
  refine va_newa (atype := .double) (ty := .double) (a0 := (1, .inr (.inr (.inr (.inl (fun _ => 0)))))) (n := nI 1) (N' := 1) hx hb (hts (.arrayClass .double) (by decide +kernel)) rfl hK hP hD hS hA (fun cA => (show arrV cA 1 (fun _ => .double 0) = arrV cA 1 (fun _ => defaultValue .double) from rfl)) (by decide +kernel) (by decide +kernel) (by decide +kernel) (by decide +kernel) (by decide +kernel) dL_law_21 (fun qd cD2 H hK hP hD hS => ?_)
  obtain rfl : cD = cD2 := ra_same rfl rfl (hK.2 1 _ rfl).2 (hK.2 4 _ rfl).2
  have hK : va_K D vwCl (TYL cZ cD cI cJ) s := hK.sub [0, 1, 2, 3] rfl
  have hP : va_P D vwCl (WA h0 hn hd hq k0 kv ko ks km kt kp kb qo qd cZ cD cI cJ (fun _ => false) (fun _ => 0) (fun _ => 0) false 0 0 (fun _ => 0) (fun _ => false) (fun _ => 0) (fun _ => 0) (fun _ => false) (fun _ => 0) (fun _ => false) false 0 (fun _ => 0) (fun _ => 0)) H := hP
  have hD : va_D (fun q : Nat => s.heap.size ≤ q) (WA h0 hn hd hq k0 kv ko ks km kt kp kb qo qd cZ cD cI cJ (fun _ => false) (fun _ => 0) (fun _ => 0) false 0 0 (fun _ => 0) (fun _ => false) (fun _ => 0) (fun _ => 0) (fun _ => false) (fun _ => 0) (fun _ => false) false 0 (fun _ => 0) (fun _ => 0)) := hD
  refine W.widen (k := 14) (n := 699) (by decide +kernel) (by decide +kernel) ?_
  refine lv_astore (lv' := [(4, .ref qd), (3, .ref qo), (2, .ref k0), (1, .ref h0), (0, .ref b)]) hx hb dL_law_23 hl (by decide) rfl (fun ls hl => ?_)
  refine lv_iconst (v := nI 0) hx hb dL_law_25 (by decide) ?_
  refine lv_istore (lv' := [(5, .int (nI 0)), (4, .ref qd), (3, .ref qo), (2, .ref k0), (1, .ref h0), (0, .ref b)]) hx hb dL_law_26 hl (by decide) rfl (fun ls hl => ?_)
  exact law_loop C hL hK 513 0 (by omega) (by omega) Rl.start hP hD hS hl
set_option maxHeartbeats 4000000 in
theorem lw_walk (l : Launch) (hl0 : l.stackTraces = false) (b : Addr) (xs : List Int32) : MetFree l x (headSpec (Jvm.Cond.code x code maxLocals ret :: tables_1) room_1) (lw_P b xs) (fun _ _ _ _ _ => True) lw_Q := by
  refine MetFree.of_bodyS (code := code) (maxLocals := maxLocals) (ret := ret) (by decide) ?_ ?_
  · intro args s m h hn
    obtain ⟨meth, c, h1, h2, h3, h4, h5, h6, -, -⟩ := Cond.code_spec hn (atoms_spec (ws := Jvm.Cond.code x code maxLocals ret :: tables_1) h _ List.mem_cons_self)
    exact ⟨meth, c, h1, h2, h3, h4, h5, h6⟩
  · intro p e s m args below meth c s₁ B hml0 hP _
    obtain ⟨rfl, hx, hbd, hgv⟩ := hP
    obtain ⟨scr, harrAt, hlist, hof, hsmall⟩ := hx
    obtain ⟨hcb, hkn, -, -⟩ := State.arrayAt?_spec harrAt
    have hown : s.vm.findClass R_law = some m.cls := findClass_of_methodNamed B.named
    have hts0 : ∀ c ∈ (Jvm.Cond.code x code maxLocals ret :: tables_1), c.before #[Value.ref b] s = true := atoms_spec (ws := Jvm.Cond.code x code maxLocals ret :: tables_1) B.pre
    have hts : ∀ w ∈ lw_tbl, w.before #[Value.ref b] s = true := k2_hts_sels lw_privs (fun w hw => hts0 w (List.mem_cons_of_mem _ hw)) lw_privs_ok
    have hml : c.maxLocals = 9 := B.maxLocals_eq (hts0 _ List.mem_cons_self)
    have X₀ : Stand p l e room_1 s m #[Value.ref b] below meth c s₁ [] 0 0 := Stand.of_body B
    have hh0 : s₁.heap = s.heap := by rw [B.state]; rfl
    have hsz : scr.slots.size = xs.length := by rw [← Array.length_toList, hlist, List.length_map]
    have hval : ∀ j : Nat, j < xs.length → scr.slots[j]? = some (.int (xs.getD j 0)) := fun j hj => by
      rw [← Array.getElem?_toList, hlist]
      simp [hj]
    have hbl : b < s.heap.size := (Array.getElem?_eq_some_iff.mp hcb).1
    have hX : va_X b xs.length (fun j => xs.getD j 0) s s.heap := ⟨scr, hcb, hof, hkn, hsz, hval⟩
    have K : W p l e room_1 s m #[Value.ref b] below meth c s₁.heap [] 0 0 (lw_Z below #[Value.ref b] s) (entryFrame m ([Value.ref b] : List Value).toArray 9) := by
      rw [hh0]
      exact whole_start l hl0 hbd ⟨B.exec, B.bytes, B.returns, hml, hown, hts, hX, hbl, B.notSynchronized, hgv⟩
    obtain ⟨t, a1, o, b1, b2, b3⟩ := K s₁ rfl X₀
    exact ⟨t, o, a1, b1, b2, b3⟩
theorem lw_pre_spec {args : Array Value} {s : State} (h : (Jvm.Cond.and given_1 narrow_1).before args s = true) (hr : rest_1_c.before args s = true) : ∃ (b : Addr) (xs : List Int32), lw_P b xs args s := by
  have hs := flat_of_before _ h
  have hq := flat_of_before _ hr
  have hc : (Cond.count 1).before args s = true := hs _ (by decide +kernel)
  have harr : (Cond.arrayOf (.arg 0) .int).before args s = true := hs _ (by decide +kernel)
  have hle : (Cond.le (.length (.arg 0)) (.int 2560)).before args s = true := hs _ (by decide +kernel)
  have hlen : (Cond.isInt (.length (.arg 0))).before args s = true := hq _ (by decide +kernel)
  have hall : (Cond.all (.arg 0) (.isInt (.elem (.arg 0) (.index 0)))).before args s = true := hq _ (by decide +kernel)
  obtain ⟨b, xs, hb, hx⟩ := State.ints_of_pre rfl harr hlen hall
  have hsm : xs.length < 2 ^ 31 := hx.choose_spec.2.2.2
  have hev : (Term.length (.arg 0)).eval args s none [] s = some (.int xs.length.toInt32) := hx.length_eval hb
  have hv := Cond.le_ints hev (show (Term.int 2560).eval args s none [] s = some (.int 2560) from rfl)
  have hd : xs.length.toInt32 ≤ 2560 := by
    simpa [Cond.before, Cond.holds, hv] using hle
  have hN : xs.length ≤ 2560 := (Int32.ofNat_le_ofNat hsm (by decide)).mp (show Int32.ofNat xs.length ≤ Int32.ofNat 2560 from hd)
  exact ⟨b, xs, Cond.one_arg hc (show args[0]? = some (.ref b) from hb), hx, hN, h⟩
theorem lw_comes (l : Launch) (hl0 : l.stackTraces = false) : Comes l x (Jvm.Cond.code x code maxLocals ret :: tables_1) room_1 (fun tb e args s => Calls_1 tb e args s ∧ rest_1 tb e args s ∧ Pre_1 tb e args s)
    (fun _ _ args s o t => lw_Q args s o t) := by
  intro p e ha hc hk s m args below hf hfit hheap happ hpre
  obtain ⟨b, xs, hP⟩ := lw_pre_spec hpre.2.2 hpre.2.1
  obtain ⟨k, o, h1, h2, h3, hQ⟩ := lw_walk l hl0 b xs p e ha hc hk s m args below hf ((Spec.applies_iff_loose hf).mp happ).1 hP trivial
  exact ⟨k, o, h1, h2, h3, hQ⟩
theorem lw_frame {s t : State} {o : Outcome} {args : Array Value} (h : State.butDraws s t lw_cs (fun t1 => Framed s o t1 [] 3101 21269)) :
    State.butDraws s t [Jvm.Choice.named "NaN.bits"] (fun t1 => Framed s o t1 (fieldLocs frame_1_writes args s ++ arrayLocs frame_1_arrays args s ++ staticLocs frame_1_statics s) 3101 21269) := h
theorem lw_limb (L : Cond) (hL : ∀ (args : Array Value) (s t : State), L.after args s (.returned (some (.int 1))) t = true) :
    ArmFor flags0 classFile x code maxLocals ret World_1 tables_1 room_1 Calls_1 rest_1 Pre_1
      (fun tb e a s o t => postC L tb e a s o t ∧ State.butDraws s t [Jvm.Choice.named "NaN.bits"] (fun t1 => Framed s o t1 (fieldLocs frame_1_writes a s ++ arrayLocs frame_1_arrays a s ++ staticLocs frame_1_statics s) 3101 21269)) := by
  intro l hfl _ _ p e ha hc hk s m args below hf hfit hheap happ hpre
  obtain ⟨k, o, h1, h2, h3, rfl, hF⟩ := lw_comes l (law_l0 hfl) p e ha hc hk s m args below hf hfit hheap happ hpre
  exact ⟨k, _, h1, h2, h3, hL args s _, lw_frame hF⟩
theorem i_vc : Claimed_1_1 ∧ Claimed_1_2 := ⟨lw_limb limb_1_1 (fun args s t => by simp [limb_1_1, Cond.after, Cond.holds, Cond.value]), lw_limb limb_1_2 (fun args s t => Cond.after_iff.mpr (by
  first | (rw [show limb_1_2 = Cond.eq .result (.int 1) from rfl, Cond.eq_ints (x := 1) (y := 1) rfl rfl]; simp; done) | (simp [limb_1_2, Cond.value, Term.eval]; done)))⟩

