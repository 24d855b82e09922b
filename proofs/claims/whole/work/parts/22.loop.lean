/-! The law's loop. -/
theorem rb5 {n i : Nat} (hn : n ≤ 2560) (hi : i ≤ 2560) : nI n - nI 5 < nI i ↔ n < i + 5 := by
  rw [Int32.lt_iff_toInt_lt, pk_sub_toInt (by omega) (by omega), nI_toInt (by omega)]; omega
section LP
variable {p : Program} {l : Launch} {e : Env} {s : State} {m : MethodId} {below : List Frame} {meth : Method} {c : Code} {b L : Nat} {xs : Nat → Int32}
variable {D : va_G} {h0 hn hd hq k0 kv ko ks km kt kp kb qo qd : Nat} {cZ cD cI cJ : ClassId}
set_option maxHeartbeats 4000000 in
set_option maxRecDepth 100000 in
theorem law_loop (C : LwC l p s m meth c b L xs) (hL : L ≤ 2560) (hK : va_K D vwCl (TYL cZ cD cI cJ) s) : ∀ (n j : Nat), L < 5 * j + 5 * n → 5 * j ≤ L →
    ∀ {nb : Nat → Bool} {v : Nat → UInt64} {ln : Nat → Nat} {go : Bool} {mw : Int32} {th : Nat} {mv : Nat → UInt64} {io : Nat → Bool} {sz : Nat → Nat} {mk : Nat → UInt64} {se : Nat → Bool} {pv : Nat → UInt64} {pd : Nat → Bool} {oL : Nat → Int64} {oD : Nat → UInt64} {H : Heap} {locs : List Loc} {ls : Array Slot}, Rl nb v ln io mv sz mk se pv pd → va_P D vwCl (WA h0 hn hd hq k0 kv ko ks km kt kp kb qo qd cZ cD cI cJ nb v ln go mw th mv io sz mk se pv pd go mw oL oD) H → va_D (fun q : Nat => s.heap.size ≤ q) (WA h0 hn hd hq k0 kv ko ks km kt kp kb qo qd cZ cD cI cJ nb v ln go mw th mv io sz mk se pv pd go mw oL oD) → va_S (fun q : Nat => s.heap.size ≤ q) s.heap H locs → lv_has ls 9 [(5, .int (nI (5 * j))), (4, .ref qd), (3, .ref qo), (2, .ref k0), (1, .ref h0), (0, .ref b)] → W p l e room_1 s m #[Value.ref b] below meth c H locs (14 + 6 * j) (699 + 40 * j) (lw_Z below #[Value.ref b] s) (F0 m 28 ls []) := by
  intro n
  induction n with
  | zero =>
    intro j h1 h2
    exact absurd h1 (by omega)
  | succ n ih =>
    intro j h1 h2 nb v ln go mw th mv io sz mk se pv pd oL oD H locs ls R hP hD hS hl
    obtain ⟨hx, hb, hr, hml, hown, hts, hX, hbl, hlocks, hl0, hZ, hxS, hxD, hxN⟩ := id C
    have hbA : ¬ (fun q : Nat => s.heap.size ≤ q) b := Nat.not_le.mpr hbl
    refine lv_iload hx hb dL_law_28 (lv_at hl 0 rfl) ?_
    refine lv_aload_n hx hb dL_law_30 rfl (lv_at hl 5 rfl) ?_
    refine va_slen hx hb hX hbl hbA hS dL_law_31 ?_
    refine kt_i (y := nI L) rfl ?_
    refine lv_iconst (v := nI 5) hx hb dL_law_32 (by decide) ?_
    refine lv_isub hx hb dL_law_33 ?_
    refine lv_icmp_gt (tgt := 1751) hx hb dL_law_34 (by decide) (fun c_1 => ?_) (fun c_1 => ?_)
    · refine lv_iconst (v := 1) hx hb dL_law_1751 (by decide) ?_
      refine va_forget (fun q hq => hS.2.2 q hq) ?_
      refine W.widen (k := 3101) (n := 21269) (by omega) (by omega) ?_
      exact W.base (lw_ret (d0 := s.drawn) (Drawn.sameBut.refl s.drawn lw_cs) hx hb hr hlocks dL_law_1752)
    · have hi : 5 * j + 4 < L := by
        have h9 : ¬ L < 5 * j + 5 := fun z => c_1 ((rb5 hL (by omega)).mpr z)
        omega
      have N : LwN p l e s m below meth c b (lw_Z below #[Value.ref b] s) D h0 hn hd hq k0 kv ko ks km kt kp kb qo qd cZ cD cI cJ (5 * j) (14 + 6 * j + 6) (699 + 40 * j + 40) := by
        intro nb v ln go mw th mv io sz mk se pv pd oL oD H locs ls R hP hD hS hl
        refine lv_iinc (v := nI (5 * j + 5)) (lv' := [(5, .int (nI (5 * j + 5))), (4, .ref qd), (3, .ref qo), (2, .ref k0), (1, .ref h0), (0, .ref b)]) hx hb dL_law_1745 hl (k := 0) rfl (nI_add (5 * j) 5) (by decide) rfl (fun ls hl => ?_)
        refine lv_goto (tgt := 28) hx hb dL_law_1748 (by decide) ?_
        exact ih (j + 1) (by omega) (by omega) R hP hD hS hl
      have hcc : 14 + 6 * j + 6 ≤ 3101 := by omega
      have hss : 699 + 40 * j + 40 ≤ 21269 := by omega
      refine lv_aload_n hx hb dL_law_37 rfl (lv_at hl 5 rfl) ?_
      refine lv_iload hx hb dL_law_38 (lv_at hl 0 rfl) ?_
      refine va_sld hx hb hX hbl hbA hS (sc_in (by omega) hL) dL_law_40 ?_
      refine lv_bipush (v := nI 31) hx hb dL_law_41 (by decide) ?_
      refine lv_iand hx hb dL_law_43 ?_
      obtain ⟨t, ht⟩ : ∃ t, xs (nI (5 * j)).toNatClampNeg &&& nI 31 = t := ⟨_, rfl⟩
      refine kt_i (y := t) ht ?_
      by_cases h0 : t.toInt < 0 ∨ 20 < t.toInt
      · refine lv_tableOut (tgt := 1745) hx hb dL_law_44 h0 (by decide) ?_
        refine W.widen (k := 14 + 6 * j + 6) (n := 699 + 40 * j + 40) (by omega) (by omega) ?_
        exact N R hP hD hS hl
      · have h21 : t.toInt = 0 ∨ t.toInt = 1 ∨ t.toInt = 2 ∨ t.toInt = 3 ∨ t.toInt = 4 ∨ t.toInt = 5 ∨ t.toInt = 6 ∨ t.toInt = 7 ∨ t.toInt = 8 ∨ t.toInt = 9 ∨ t.toInt = 10 ∨ t.toInt = 11 ∨ t.toInt = 12 ∨ t.toInt = 13 ∨ t.toInt = 14 ∨ t.toInt = 15 ∨ t.toInt = 16 ∨ t.toInt = 17 ∨ t.toInt = 18 ∨ t.toInt = 19 ∨ t.toInt = 20 := by omega
        rcases h21 with h | h | h | h | h | h | h | h | h | h | h | h | h | h | h | h | h | h | h | h | h
        · refine lv_tableIn (off := 100) (tgt := 144) hx hb dL_law_44 (by omega) (by omega) (by rw [h]; rfl) (by decide) ?_
          exact ca_level R C hL hi hK hP hD hS hl hcc hss @N
        · refine lv_tableIn (off := 178) (tgt := 222) hx hb dL_law_44 (by omega) (by omega) (by rw [h]; rfl) (by decide) ?_
          exact ca_wind R C hL hi hK hP hD hS hl hcc hss @N
        · refine lv_tableIn (off := 254) (tgt := 298) hx hb dL_law_44 (by omega) (by omega) (by rw [h]; rfl) (by decide) ?_
          exact ca_out R C hL hi hK hP hD hS hl hcc hss @N
        · refine lv_tableIn (off := 322) (tgt := 366) hx hb dL_law_44 (by omega) (by omega) (by rw [h]; rfl) (by decide) ?_
          exact ca_clear R C hL hi hK hP hD hS hl hcc hss @N
        · refine lv_tableIn (off := 378) (tgt := 422) hx hb dL_law_44 (by omega) (by omega) (by rw [h]; rfl) (by decide) ?_
          exact ca_mark R C hL hi hK hP hD hS hl hcc hss @N
        · refine lv_tableIn (off := 475) (tgt := 519) hx hb dL_law_44 (by omega) (by omega) (by rw [h]; rfl) (by decide) ?_
          exact ca_gale R C hL hi hK hP hD hS hl hcc hss @N
        · refine lv_tableIn (off := 558) (tgt := 602) hx hb dL_law_44 (by omega) (by omega) (by rw [h]; rfl) (by decide) ?_
          exact ca_lift R C hL hi hK hP hD hS hl hcc hss @N
        · refine lv_tableIn (off := 633) (tgt := 677) hx hb dL_law_44 (by omega) (by omega) (by rw [h]; rfl) (by decide) ?_
          exact ca_probe R C hL hi hK hP hD hS hl hcc hss @N
        · refine lv_tableIn (off := 699) (tgt := 743) hx hb dL_law_44 (by omega) (by omega) (by rw [h]; rfl) (by decide) ?_
          exact ca_probeWind R C hL hi hK hP hD hS hl hcc hss @N
        · refine lv_tableIn (off := 763) (tgt := 807) hx hb dL_law_44 (by omega) (by omega) (by rw [h]; rfl) (by decide) ?_
          exact ca_probeOut R C hL hi hK hP hD hS hl hcc hss @N
        · refine lv_tableIn (off := 819) (tgt := 863) hx hb dL_law_44 (by omega) (by omega) (by rw [h]; rfl) (by decide) ?_
          exact ca_run R C hL hi hK hP hD hS hl hcc hss @N
        · refine lv_tableIn (off := 927) (tgt := 971) hx hb dL_law_44 (by omega) (by omega) (by rw [h]; rfl) (by decide) ?_
          exact ca_count R C hL hi hK hP hD hS hl hcc hss @N
        · refine lv_tableIn (off := 1035) (tgt := 1079) hx hb dL_law_44 (by omega) (by omega) (by rw [h]; rfl) (by decide) ?_
          exact ca_holds R C hL hi hK hP hD hS hl hcc hss @N
        · refine lv_tableIn (off := 1134) (tgt := 1178) hx hb dL_law_44 (by omega) (by omega) (by rw [h]; rfl) (by decide) ?_
          exact ca_pick R C hL hi hK hP hD hS hl hcc hss @N
        · refine lv_tableIn (off := 1226) (tgt := 1270) hx hb dL_law_44 (by omega) (by omega) (by rw [h]; rfl) (by decide) ?_
          exact ca_stand R C hL hi hK hP hD hS hl hcc hss @N
        · refine lv_tableIn (off := 1282) (tgt := 1326) hx hb dL_law_44 (by omega) (by omega) (by rw [h]; rfl) (by decide) ?_
          exact ca_order R C hL hi hK hP hD hS hl hcc hss @N
        · refine lv_tableIn (off := 1338) (tgt := 1382) hx hb dL_law_44 (by omega) (by omega) (by rw [h]; rfl) (by decide) ?_
          exact ca_highest R C hL hi hK hP hD hS hl hcc hss @N
        · refine lv_tableIn (off := 1415) (tgt := 1459) hx hb dL_law_44 (by omega) (by omega) (by rw [h]; rfl) (by decide) ?_
          exact ca_calmest R C hL hi hK hP hD hS hl hcc hss @N
        · refine lv_tableIn (off := 1493) (tgt := 1537) hx hb dL_law_44 (by omega) (by omega) (by rw [h]; rfl) (by decide) ?_
          exact ca_same R C hL hi hK hP hD hS hl hcc hss @N
        · refine lv_tableIn (off := 1561) (tgt := 1605) hx hb dL_law_44 (by omega) (by omega) (by rw [h]; rfl) (by decide) ?_
          exact ca_move R C hL hi hK hP hD hS hl hcc hss @N
        · refine lv_tableIn (off := 1633) (tgt := 1677) hx hb dL_law_44 (by omega) (by omega) (by rw [h]; rfl) (by decide) ?_
          exact ca_size R C hL hi hK hP hD hS hl hcc hss @N
end LP
