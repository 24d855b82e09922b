/-! Each case whole. -/
section CA
variable {p : Program} {l : Launch} {e : Env} {s : State} {m : MethodId} {below : List Frame} {meth : Method} {c : Code} {H : Heap} {locs : List Loc} {cells slots : Nat} {Q : State → Prop} {b L i : Nat} {xs : Nat → Int32} {ls : Array Slot}
variable {D : va_G} {h0 hn hd hq k0 kv ko ks km kt kp kb qo qd : Nat} {cZ cD cI cJ : ClassId} {nb : Nat → Bool} {v : Nat → UInt64} {ln : Nat → Nat} {go : Bool} {mw : Int32} {th : Nat} {mv : Nat → UInt64} {io : Nat → Bool} {sz : Nat → Nat} {mk : Nat → UInt64} {se : Nat → Bool} {pv : Nat → UInt64} {pd : Nat → Bool} {oL : Nat → Int64} {oD : Nat → UInt64}
theorem ca_level (R : Rl nb v ln io mv sz mk se pv pd) (C : LwC l p s m meth c b L xs) (hL : L ≤ 2560) (hi : i + 4 < L) (hK : va_K D vwCl (TYL cZ cD cI cJ) s) (hP : va_P D vwCl (WA h0 hn hd hq k0 kv ko ks km kt kp kb qo qd cZ cD cI cJ nb v ln go mw th mv io sz mk se pv pd go mw oL oD) H) (hD : va_D (fun q : Nat => s.heap.size ≤ q) (WA h0 hn hd hq k0 kv ko ks km kt kp kb qo qd cZ cD cI cJ nb v ln go mw th mv io sz mk se pv pd go mw oL oD)) (hS : va_S (fun q : Nat => s.heap.size ≤ q) s.heap H locs) (hl : lv_has ls 9 [(5, .int (nI i)), (4, .ref qd), (3, .ref qo), (2, .ref k0), (1, .ref h0), (0, .ref b)]) (hcc : cells + 6 ≤ 3101) (hss : slots + 40 ≤ 21269) (N : LwN p l e s m below meth c b Q D h0 hn hd hq k0 kv ko ks km kt kp kb qo qd cZ cD cI cJ i (cells + 6) (slots + 40)) : W p l e room_1 s m #[Value.ref b] below meth c H locs cells slots Q (F0 m 144 ls []) := by
  obtain ⟨x1, h1⟩ : ∃ x, xs (nI (i + 1)).toNatClampNeg = x := ⟨_, rfl⟩
  obtain ⟨x2, h2⟩ : ∃ x, xs (nI (i + 2)).toNatClampNeg = x := ⟨_, rfl⟩
  by_cases q : InN 6 x1 ∧ lvl (FP.dmul (FP.i2d x2) 4593671619917905920) = true
  · obtain ⟨⟨g, hg, rfl⟩, hlv⟩ := q
    rcases Nat.lt_or_ge (ln (g * 2 + 0)) 12 with z | z
    · exact cs_level hg hlv z h1 h2 R C hL hi hK hP hD hS hl hcc hss @N
    · exact cs_level_full hg hlv (Nat.le_antisymm (R.1 _) z) h1 h2 R C hL hi hK hP hD hS hl hcc hss @N
  · exact cs_level_bad q h1 h2 R C hL hi hK hP hD hS hl hcc hss @N
theorem ca_wind (R : Rl nb v ln io mv sz mk se pv pd) (C : LwC l p s m meth c b L xs) (hL : L ≤ 2560) (hi : i + 4 < L) (hK : va_K D vwCl (TYL cZ cD cI cJ) s) (hP : va_P D vwCl (WA h0 hn hd hq k0 kv ko ks km kt kp kb qo qd cZ cD cI cJ nb v ln go mw th mv io sz mk se pv pd go mw oL oD) H) (hD : va_D (fun q : Nat => s.heap.size ≤ q) (WA h0 hn hd hq k0 kv ko ks km kt kp kb qo qd cZ cD cI cJ nb v ln go mw th mv io sz mk se pv pd go mw oL oD)) (hS : va_S (fun q : Nat => s.heap.size ≤ q) s.heap H locs) (hl : lv_has ls 9 [(5, .int (nI i)), (4, .ref qd), (3, .ref qo), (2, .ref k0), (1, .ref h0), (0, .ref b)]) (hcc : cells + 6 ≤ 3101) (hss : slots + 40 ≤ 21269) (N : LwN p l e s m below meth c b Q D h0 hn hd hq k0 kv ko ks km kt kp kb qo qd cZ cD cI cJ i (cells + 6) (slots + 40)) : W p l e room_1 s m #[Value.ref b] below meth c H locs cells slots Q (F0 m 222 ls []) := by
  obtain ⟨x1, h1⟩ : ∃ x, xs (nI (i + 1)).toNatClampNeg = x := ⟨_, rfl⟩
  obtain ⟨x2, h2⟩ : ∃ x, xs (nI (i + 2)).toNatClampNeg = x := ⟨_, rfl⟩
  by_cases q : InN 6 x1 ∧ wnd (FP.fmul (FP.i2f x2) 1040187392) = true
  · obtain ⟨⟨g, hg, rfl⟩, hlv⟩ := q
    rcases Nat.lt_or_ge (ln (g * 2 + 1)) 12 with z | z
    · exact cs_wind hg hlv z h1 h2 R C hL hi hK hP hD hS hl hcc hss @N
    · exact cs_wind_full hg hlv (Nat.le_antisymm (R.1 _) z) h1 h2 R C hL hi hK hP hD hS hl hcc hss @N
  · exact cs_wind_bad q h1 h2 R C hL hi hK hP hD hS hl hcc hss @N
theorem ca_out (R : Rl nb v ln io mv sz mk se pv pd) (C : LwC l p s m meth c b L xs) (hL : L ≤ 2560) (hi : i + 4 < L) (hK : va_K D vwCl (TYL cZ cD cI cJ) s) (hP : va_P D vwCl (WA h0 hn hd hq k0 kv ko ks km kt kp kb qo qd cZ cD cI cJ nb v ln go mw th mv io sz mk se pv pd go mw oL oD) H) (hD : va_D (fun q : Nat => s.heap.size ≤ q) (WA h0 hn hd hq k0 kv ko ks km kt kp kb qo qd cZ cD cI cJ nb v ln go mw th mv io sz mk se pv pd go mw oL oD)) (hS : va_S (fun q : Nat => s.heap.size ≤ q) s.heap H locs) (hl : lv_has ls 9 [(5, .int (nI i)), (4, .ref qd), (3, .ref qo), (2, .ref k0), (1, .ref h0), (0, .ref b)]) (hcc : cells + 6 ≤ 3101) (hss : slots + 40 ≤ 21269) (N : LwN p l e s m below meth c b Q D h0 hn hd hq k0 kv ko ks km kt kp kb qo qd cZ cD cI cJ i (cells + 6) (slots + 40)) : W p l e room_1 s m #[Value.ref b] below meth c H locs cells slots Q (F0 m 298 ls []) := by
  obtain ⟨x1, h1⟩ : ∃ x, xs (nI (i + 1)).toNatClampNeg = x := ⟨_, rfl⟩
  obtain ⟨x2, h2⟩ : ∃ x, xs (nI (i + 2)).toNatClampNeg = x := ⟨_, rfl⟩
  by_cases q : InN 6 x1 ∧ InN 2 x2
  · obtain ⟨⟨g, hg, rfl⟩, ⟨w, hw, rfl⟩⟩ := q
    rcases Nat.lt_or_ge (ln (g * 2 + w)) 12 with z | z
    · exact cs_out hg hw z h1 h2 R C hL hi hK hP hD hS hl hcc hss @N
    · exact cs_out_full hg hw (Nat.le_antisymm (R.1 _) z) h1 h2 R C hL hi hK hP hD hS hl hcc hss @N
  · exact cs_out_bad q h1 h2 R C hL hi hK hP hD hS hl hcc hss @N
theorem ca_clear (R : Rl nb v ln io mv sz mk se pv pd) (C : LwC l p s m meth c b L xs) (hL : L ≤ 2560) (hi : i + 4 < L) (hK : va_K D vwCl (TYL cZ cD cI cJ) s) (hP : va_P D vwCl (WA h0 hn hd hq k0 kv ko ks km kt kp kb qo qd cZ cD cI cJ nb v ln go mw th mv io sz mk se pv pd go mw oL oD) H) (hD : va_D (fun q : Nat => s.heap.size ≤ q) (WA h0 hn hd hq k0 kv ko ks km kt kp kb qo qd cZ cD cI cJ nb v ln go mw th mv io sz mk se pv pd go mw oL oD)) (hS : va_S (fun q : Nat => s.heap.size ≤ q) s.heap H locs) (hl : lv_has ls 9 [(5, .int (nI i)), (4, .ref qd), (3, .ref qo), (2, .ref k0), (1, .ref h0), (0, .ref b)]) (hcc : cells + 6 ≤ 3101) (hss : slots + 40 ≤ 21269) (N : LwN p l e s m below meth c b Q D h0 hn hd hq k0 kv ko ks km kt kp kb qo qd cZ cD cI cJ i (cells + 6) (slots + 40)) : W p l e room_1 s m #[Value.ref b] below meth c H locs cells slots Q (F0 m 366 ls []) := by
  obtain ⟨x1, h1⟩ : ∃ x, xs (nI (i + 1)).toNatClampNeg = x := ⟨_, rfl⟩
  by_cases q : InN 6 x1
  · obtain ⟨g, hg, rfl⟩ := q
    exact cs_clear hg h1 R C hL hi hK hP hD hS hl hcc hss @N
  · exact cs_clear_bad q h1 R C hL hi hK hP hD hS hl hcc hss @N
theorem ca_mark (R : Rl nb v ln io mv sz mk se pv pd) (C : LwC l p s m meth c b L xs) (hL : L ≤ 2560) (hi : i + 4 < L) (hK : va_K D vwCl (TYL cZ cD cI cJ) s) (hP : va_P D vwCl (WA h0 hn hd hq k0 kv ko ks km kt kp kb qo qd cZ cD cI cJ nb v ln go mw th mv io sz mk se pv pd go mw oL oD) H) (hD : va_D (fun q : Nat => s.heap.size ≤ q) (WA h0 hn hd hq k0 kv ko ks km kt kp kb qo qd cZ cD cI cJ nb v ln go mw th mv io sz mk se pv pd go mw oL oD)) (hS : va_S (fun q : Nat => s.heap.size ≤ q) s.heap H locs) (hl : lv_has ls 9 [(5, .int (nI i)), (4, .ref qd), (3, .ref qo), (2, .ref k0), (1, .ref h0), (0, .ref b)]) (hcc : cells + 6 ≤ 3101) (hss : slots + 40 ≤ 21269) (N : LwN p l e s m below meth c b Q D h0 hn hd hq k0 kv ko ks km kt kp kb qo qd cZ cD cI cJ i (cells + 6) (slots + 40)) : W p l e room_1 s m #[Value.ref b] below meth c H locs cells slots Q (F0 m 422 ls []) := by
  obtain ⟨x1, h1⟩ : ∃ x, xs (nI (i + 1)).toNatClampNeg = x := ⟨_, rfl⟩
  obtain ⟨x2, h2⟩ : ∃ x, xs (nI (i + 2)).toNatClampNeg = x := ⟨_, rfl⟩
  obtain ⟨x3, h3⟩ : ∃ x, xs (nI (i + 3)).toNatClampNeg = x := ⟨_, rfl⟩
  by_cases q : InN 6 x1 ∧ InN 2 x2 ∧ lvl (FP.dmul (FP.i2d x3) 4593671619917905920) = true
  · obtain ⟨⟨g, hg, rfl⟩, ⟨k, hk, rfl⟩, hlv⟩ := q
    exact cs_mark hg hk hlv h1 h2 h3 R C hL hi hK hP hD hS hl hcc hss @N
  · exact cs_mark_bad q h1 h2 h3 R C hL hi hK hP hD hS hl hcc hss @N
theorem ca_gale (R : Rl nb v ln io mv sz mk se pv pd) (C : LwC l p s m meth c b L xs) (hL : L ≤ 2560) (hi : i + 4 < L) (hK : va_K D vwCl (TYL cZ cD cI cJ) s) (hP : va_P D vwCl (WA h0 hn hd hq k0 kv ko ks km kt kp kb qo qd cZ cD cI cJ nb v ln go mw th mv io sz mk se pv pd go mw oL oD) H) (hD : va_D (fun q : Nat => s.heap.size ≤ q) (WA h0 hn hd hq k0 kv ko ks km kt kp kb qo qd cZ cD cI cJ nb v ln go mw th mv io sz mk se pv pd go mw oL oD)) (hS : va_S (fun q : Nat => s.heap.size ≤ q) s.heap H locs) (hl : lv_has ls 9 [(5, .int (nI i)), (4, .ref qd), (3, .ref qo), (2, .ref k0), (1, .ref h0), (0, .ref b)]) (hcc : cells + 6 ≤ 3101) (hss : slots + 40 ≤ 21269) (N : LwN p l e s m below meth c b Q D h0 hn hd hq k0 kv ko ks km kt kp kb qo qd cZ cD cI cJ i (cells + 6) (slots + 40)) : W p l e room_1 s m #[Value.ref b] below meth c H locs cells slots Q (F0 m 519 ls []) := by
  obtain ⟨x1, h1⟩ : ∃ x, xs (nI (i + 1)).toNatClampNeg = x := ⟨_, rfl⟩
  obtain ⟨x2, h2⟩ : ∃ x, xs (nI (i + 2)).toNatClampNeg = x := ⟨_, rfl⟩
  by_cases q : InN 6 x1 ∧ wnd (FP.fmul (FP.i2f x2) 1040187392) = true
  · obtain ⟨⟨g, hg, rfl⟩, hlv⟩ := q
    exact cs_gale hg hlv h1 h2 R C hL hi hK hP hD hS hl hcc hss @N
  · exact cs_gale_bad q h1 h2 R C hL hi hK hP hD hS hl hcc hss @N
theorem ca_lift (R : Rl nb v ln io mv sz mk se pv pd) (C : LwC l p s m meth c b L xs) (hL : L ≤ 2560) (hi : i + 4 < L) (hK : va_K D vwCl (TYL cZ cD cI cJ) s) (hP : va_P D vwCl (WA h0 hn hd hq k0 kv ko ks km kt kp kb qo qd cZ cD cI cJ nb v ln go mw th mv io sz mk se pv pd go mw oL oD) H) (hD : va_D (fun q : Nat => s.heap.size ≤ q) (WA h0 hn hd hq k0 kv ko ks km kt kp kb qo qd cZ cD cI cJ nb v ln go mw th mv io sz mk se pv pd go mw oL oD)) (hS : va_S (fun q : Nat => s.heap.size ≤ q) s.heap H locs) (hl : lv_has ls 9 [(5, .int (nI i)), (4, .ref qd), (3, .ref qo), (2, .ref k0), (1, .ref h0), (0, .ref b)]) (hcc : cells + 6 ≤ 3101) (hss : slots + 40 ≤ 21269) (N : LwN p l e s m below meth c b Q D h0 hn hd hq k0 kv ko ks km kt kp kb qo qd cZ cD cI cJ i (cells + 6) (slots + 40)) : W p l e room_1 s m #[Value.ref b] below meth c H locs cells slots Q (F0 m 602 ls []) := by
  obtain ⟨x1, h1⟩ : ∃ x, xs (nI (i + 1)).toNatClampNeg = x := ⟨_, rfl⟩
  obtain ⟨x2, h2⟩ : ∃ x, xs (nI (i + 2)).toNatClampNeg = x := ⟨_, rfl⟩
  by_cases q : InN 6 x1 ∧ InN 3 x2
  · obtain ⟨⟨g, hg, rfl⟩, ⟨k, hk, rfl⟩⟩ := q
    exact cs_lift hg hk h1 h2 R C hL hi hK hP hD hS hl hcc hss @N
  · exact cs_lift_bad q h1 h2 R C hL hi hK hP hD hS hl hcc hss @N
theorem ca_probe (R : Rl nb v ln io mv sz mk se pv pd) (C : LwC l p s m meth c b L xs) (hL : L ≤ 2560) (hi : i + 4 < L) (hK : va_K D vwCl (TYL cZ cD cI cJ) s) (hP : va_P D vwCl (WA h0 hn hd hq k0 kv ko ks km kt kp kb qo qd cZ cD cI cJ nb v ln go mw th mv io sz mk se pv pd go mw oL oD) H) (hD : va_D (fun q : Nat => s.heap.size ≤ q) (WA h0 hn hd hq k0 kv ko ks km kt kp kb qo qd cZ cD cI cJ nb v ln go mw th mv io sz mk se pv pd go mw oL oD)) (hS : va_S (fun q : Nat => s.heap.size ≤ q) s.heap H locs) (hl : lv_has ls 9 [(5, .int (nI i)), (4, .ref qd), (3, .ref qo), (2, .ref k0), (1, .ref h0), (0, .ref b)]) (hcc : cells + 6 ≤ 3101) (hss : slots + 40 ≤ 21269) (N : LwN p l e s m below meth c b Q D h0 hn hd hq k0 kv ko ks km kt kp kb qo qd cZ cD cI cJ i (cells + 6) (slots + 40)) : W p l e room_1 s m #[Value.ref b] below meth c H locs cells slots Q (F0 m 677 ls []) := by
  obtain ⟨x1, h1⟩ : ∃ x, xs (nI (i + 1)).toNatClampNeg = x := ⟨_, rfl⟩
  by_cases q : lvl (FP.dmul (FP.i2d x1) 4593671619917905920) = true
  · exact cs_probe q h1 R C hL hi hK hP hD hS hl hcc hss @N
  · exact cs_probe_bad q h1 R C hL hi hK hP hD hS hl hcc hss @N
theorem ca_probeWind (R : Rl nb v ln io mv sz mk se pv pd) (C : LwC l p s m meth c b L xs) (hL : L ≤ 2560) (hi : i + 4 < L) (hK : va_K D vwCl (TYL cZ cD cI cJ) s) (hP : va_P D vwCl (WA h0 hn hd hq k0 kv ko ks km kt kp kb qo qd cZ cD cI cJ nb v ln go mw th mv io sz mk se pv pd go mw oL oD) H) (hD : va_D (fun q : Nat => s.heap.size ≤ q) (WA h0 hn hd hq k0 kv ko ks km kt kp kb qo qd cZ cD cI cJ nb v ln go mw th mv io sz mk se pv pd go mw oL oD)) (hS : va_S (fun q : Nat => s.heap.size ≤ q) s.heap H locs) (hl : lv_has ls 9 [(5, .int (nI i)), (4, .ref qd), (3, .ref qo), (2, .ref k0), (1, .ref h0), (0, .ref b)]) (hcc : cells + 6 ≤ 3101) (hss : slots + 40 ≤ 21269) (N : LwN p l e s m below meth c b Q D h0 hn hd hq k0 kv ko ks km kt kp kb qo qd cZ cD cI cJ i (cells + 6) (slots + 40)) : W p l e room_1 s m #[Value.ref b] below meth c H locs cells slots Q (F0 m 743 ls []) := by
  obtain ⟨x1, h1⟩ : ∃ x, xs (nI (i + 1)).toNatClampNeg = x := ⟨_, rfl⟩
  by_cases q : wnd (FP.fmul (FP.i2f x1) 1040187392) = true
  · exact cs_probeWind q h1 R C hL hi hK hP hD hS hl hcc hss @N
  · exact cs_probeWind_bad q h1 R C hL hi hK hP hD hS hl hcc hss @N
theorem ca_probeOut (R : Rl nb v ln io mv sz mk se pv pd) (C : LwC l p s m meth c b L xs) (hL : L ≤ 2560) (hi : i + 4 < L) (hK : va_K D vwCl (TYL cZ cD cI cJ) s) (hP : va_P D vwCl (WA h0 hn hd hq k0 kv ko ks km kt kp kb qo qd cZ cD cI cJ nb v ln go mw th mv io sz mk se pv pd go mw oL oD) H) (hD : va_D (fun q : Nat => s.heap.size ≤ q) (WA h0 hn hd hq k0 kv ko ks km kt kp kb qo qd cZ cD cI cJ nb v ln go mw th mv io sz mk se pv pd go mw oL oD)) (hS : va_S (fun q : Nat => s.heap.size ≤ q) s.heap H locs) (hl : lv_has ls 9 [(5, .int (nI i)), (4, .ref qd), (3, .ref qo), (2, .ref k0), (1, .ref h0), (0, .ref b)]) (hcc : cells + 6 ≤ 3101) (hss : slots + 40 ≤ 21269) (N : LwN p l e s m below meth c b Q D h0 hn hd hq k0 kv ko ks km kt kp kb qo qd cZ cD cI cJ i (cells + 6) (slots + 40)) : W p l e room_1 s m #[Value.ref b] below meth c H locs cells slots Q (F0 m 807 ls []) := by
  obtain ⟨x1, h1⟩ : ∃ x, xs (nI (i + 1)).toNatClampNeg = x := ⟨_, rfl⟩
  by_cases q : InN 2 x1
  · obtain ⟨w, hw, rfl⟩ := q
    exact cs_probeOut hw h1 R C hL hi hK hP hD hS hl hcc hss @N
  · exact cs_probeOut_bad q h1 R C hL hi hK hP hD hS hl hcc hss @N
theorem ca_run (R : Rl nb v ln io mv sz mk se pv pd) (C : LwC l p s m meth c b L xs) (hL : L ≤ 2560) (hi : i + 4 < L) (hK : va_K D vwCl (TYL cZ cD cI cJ) s) (hP : va_P D vwCl (WA h0 hn hd hq k0 kv ko ks km kt kp kb qo qd cZ cD cI cJ nb v ln go mw th mv io sz mk se pv pd go mw oL oD) H) (hD : va_D (fun q : Nat => s.heap.size ≤ q) (WA h0 hn hd hq k0 kv ko ks km kt kp kb qo qd cZ cD cI cJ nb v ln go mw th mv io sz mk se pv pd go mw oL oD)) (hS : va_S (fun q : Nat => s.heap.size ≤ q) s.heap H locs) (hl : lv_has ls 9 [(5, .int (nI i)), (4, .ref qd), (3, .ref qo), (2, .ref k0), (1, .ref h0), (0, .ref b)]) (hcc : cells + 6 ≤ 3101) (hss : slots + 40 ≤ 21269) (N : LwN p l e s m below meth c b Q D h0 hn hd hq k0 kv ko ks km kt kp kb qo qd cZ cD cI cJ i (cells + 6) (slots + 40)) : W p l e room_1 s m #[Value.ref b] below meth c H locs cells slots Q (F0 m 863 ls []) := by
  obtain ⟨x1, h1⟩ : ∃ x, xs (nI (i + 1)).toNatClampNeg = x := ⟨_, rfl⟩
  obtain ⟨x2, h2⟩ : ∃ x, xs (nI (i + 2)).toNatClampNeg = x := ⟨_, rfl⟩
  obtain ⟨x3, h3⟩ : ∃ x, xs (nI (i + 3)).toNatClampNeg = x := ⟨_, rfl⟩
  obtain ⟨x4, h4⟩ : ∃ x, xs (nI (i + 4)).toNatClampNeg = x := ⟨_, rfl⟩
  by_cases hz : x4 = 0
  · by_cases q : InN 6 x1 ∧ InN 2 x2 ∧ InN 6 x3
    · obtain ⟨⟨g, hg, rfl⟩, ⟨w, hw, rfl⟩, ⟨k, hk, rfl⟩⟩ := q
      exact cs_run_f hg hw hk hz h1 h2 h3 h4 R C hL hi hK hP hD hS hl hcc hss @N
    · exact cs_run_bad_f q hz h1 h2 h3 h4 R C hL hi hK hP hD hS hl hcc hss @N
  · by_cases q : InN 6 x1 ∧ InN 2 x2 ∧ InN 6 x3
    · obtain ⟨⟨g, hg, rfl⟩, ⟨w, hw, rfl⟩, ⟨k, hk, rfl⟩⟩ := q
      exact cs_run_t hg hw hk hz h1 h2 h3 h4 R C hL hi hK hP hD hS hl hcc hss @N
    · exact cs_run_bad_t q hz h1 h2 h3 h4 R C hL hi hK hP hD hS hl hcc hss @N
theorem ca_count (R : Rl nb v ln io mv sz mk se pv pd) (C : LwC l p s m meth c b L xs) (hL : L ≤ 2560) (hi : i + 4 < L) (hK : va_K D vwCl (TYL cZ cD cI cJ) s) (hP : va_P D vwCl (WA h0 hn hd hq k0 kv ko ks km kt kp kb qo qd cZ cD cI cJ nb v ln go mw th mv io sz mk se pv pd go mw oL oD) H) (hD : va_D (fun q : Nat => s.heap.size ≤ q) (WA h0 hn hd hq k0 kv ko ks km kt kp kb qo qd cZ cD cI cJ nb v ln go mw th mv io sz mk se pv pd go mw oL oD)) (hS : va_S (fun q : Nat => s.heap.size ≤ q) s.heap H locs) (hl : lv_has ls 9 [(5, .int (nI i)), (4, .ref qd), (3, .ref qo), (2, .ref k0), (1, .ref h0), (0, .ref b)]) (hcc : cells + 6 ≤ 3101) (hss : slots + 40 ≤ 21269) (N : LwN p l e s m below meth c b Q D h0 hn hd hq k0 kv ko ks km kt kp kb qo qd cZ cD cI cJ i (cells + 6) (slots + 40)) : W p l e room_1 s m #[Value.ref b] below meth c H locs cells slots Q (F0 m 971 ls []) := by
  obtain ⟨x1, h1⟩ : ∃ x, xs (nI (i + 1)).toNatClampNeg = x := ⟨_, rfl⟩
  obtain ⟨x2, h2⟩ : ∃ x, xs (nI (i + 2)).toNatClampNeg = x := ⟨_, rfl⟩
  obtain ⟨x3, h3⟩ : ∃ x, xs (nI (i + 3)).toNatClampNeg = x := ⟨_, rfl⟩
  obtain ⟨x4, h4⟩ : ∃ x, xs (nI (i + 4)).toNatClampNeg = x := ⟨_, rfl⟩
  by_cases hz : x4 = 0
  · by_cases q : InN 6 x1 ∧ InN 2 x2 ∧ InN 6 x3
    · obtain ⟨⟨g, hg, rfl⟩, ⟨w, hw, rfl⟩, ⟨k, hk, rfl⟩⟩ := q
      exact cs_count_f hg hw hk hz h1 h2 h3 h4 R C hL hi hK hP hD hS hl hcc hss @N
    · exact cs_count_bad_f q hz h1 h2 h3 h4 R C hL hi hK hP hD hS hl hcc hss @N
  · by_cases q : InN 6 x1 ∧ InN 2 x2 ∧ InN 6 x3
    · obtain ⟨⟨g, hg, rfl⟩, ⟨w, hw, rfl⟩, ⟨k, hk, rfl⟩⟩ := q
      exact cs_count_t hg hw hk hz h1 h2 h3 h4 R C hL hi hK hP hD hS hl hcc hss @N
    · exact cs_count_bad_t q hz h1 h2 h3 h4 R C hL hi hK hP hD hS hl hcc hss @N
theorem ca_holds (R : Rl nb v ln io mv sz mk se pv pd) (C : LwC l p s m meth c b L xs) (hL : L ≤ 2560) (hi : i + 4 < L) (hK : va_K D vwCl (TYL cZ cD cI cJ) s) (hP : va_P D vwCl (WA h0 hn hd hq k0 kv ko ks km kt kp kb qo qd cZ cD cI cJ nb v ln go mw th mv io sz mk se pv pd go mw oL oD) H) (hD : va_D (fun q : Nat => s.heap.size ≤ q) (WA h0 hn hd hq k0 kv ko ks km kt kp kb qo qd cZ cD cI cJ nb v ln go mw th mv io sz mk se pv pd go mw oL oD)) (hS : va_S (fun q : Nat => s.heap.size ≤ q) s.heap H locs) (hl : lv_has ls 9 [(5, .int (nI i)), (4, .ref qd), (3, .ref qo), (2, .ref k0), (1, .ref h0), (0, .ref b)]) (hcc : cells + 6 ≤ 3101) (hss : slots + 40 ≤ 21269) (N : LwN p l e s m below meth c b Q D h0 hn hd hq k0 kv ko ks km kt kp kb qo qd cZ cD cI cJ i (cells + 6) (slots + 40)) : W p l e room_1 s m #[Value.ref b] below meth c H locs cells slots Q (F0 m 1079 ls []) := by
  obtain ⟨x1, h1⟩ : ∃ x, xs (nI (i + 1)).toNatClampNeg = x := ⟨_, rfl⟩
  obtain ⟨x2, h2⟩ : ∃ x, xs (nI (i + 2)).toNatClampNeg = x := ⟨_, rfl⟩
  obtain ⟨x3, h3⟩ : ∃ x, xs (nI (i + 3)).toNatClampNeg = x := ⟨_, rfl⟩
  obtain ⟨x4, h4⟩ : ∃ x, xs (nI (i + 4)).toNatClampNeg = x := ⟨_, rfl⟩
  by_cases q : InN 6 x1 ∧ InN 6 x2 ∧ InN 2 x3 ∧ InN 6 x4
  · obtain ⟨⟨g, hg, rfl⟩, ⟨h, hh, rfl⟩, ⟨w, hw, rfl⟩, ⟨k, hk, rfl⟩⟩ := q
    exact cs_holds hg hh hw hk h1 h2 h3 h4 R C hL hi hK hP hD hS hl hcc hss @N
  · exact cs_holds_bad q h1 h2 h3 h4 R C hL hi hK hP hD hS hl hcc hss @N
theorem ca_pick (R : Rl nb v ln io mv sz mk se pv pd) (C : LwC l p s m meth c b L xs) (hL : L ≤ 2560) (hi : i + 4 < L) (hK : va_K D vwCl (TYL cZ cD cI cJ) s) (hP : va_P D vwCl (WA h0 hn hd hq k0 kv ko ks km kt kp kb qo qd cZ cD cI cJ nb v ln go mw th mv io sz mk se pv pd go mw oL oD) H) (hD : va_D (fun q : Nat => s.heap.size ≤ q) (WA h0 hn hd hq k0 kv ko ks km kt kp kb qo qd cZ cD cI cJ nb v ln go mw th mv io sz mk se pv pd go mw oL oD)) (hS : va_S (fun q : Nat => s.heap.size ≤ q) s.heap H locs) (hl : lv_has ls 9 [(5, .int (nI i)), (4, .ref qd), (3, .ref qo), (2, .ref k0), (1, .ref h0), (0, .ref b)]) (hcc : cells + 6 ≤ 3101) (hss : slots + 40 ≤ 21269) (N : LwN p l e s m below meth c b Q D h0 hn hd hq k0 kv ko ks km kt kp kb qo qd cZ cD cI cJ i (cells + 6) (slots + 40)) : W p l e room_1 s m #[Value.ref b] below meth c H locs cells slots Q (F0 m 1178 ls []) := by
  obtain ⟨x1, h1⟩ : ∃ x, xs (nI (i + 1)).toNatClampNeg = x := ⟨_, rfl⟩
  obtain ⟨x2, h2⟩ : ∃ x, xs (nI (i + 2)).toNatClampNeg = x := ⟨_, rfl⟩
  obtain ⟨x3, h3⟩ : ∃ x, xs (nI (i + 3)).toNatClampNeg = x := ⟨_, rfl⟩
  obtain ⟨x4, h4⟩ : ∃ x, xs (nI (i + 4)).toNatClampNeg = x := ⟨_, rfl⟩
  by_cases q : InN 6 x1 ∧ InN 6 x2 ∧ InN 2 x3 ∧ InN 6 x4
  · obtain ⟨⟨g, hg, rfl⟩, ⟨h, hh, rfl⟩, ⟨w, hw, rfl⟩, ⟨k, hk, rfl⟩⟩ := q
    exact cs_pick hg hh hw hk h1 h2 h3 h4 R C hL hi hK hP hD hS hl hcc hss @N
  · exact cs_pick_bad q h1 h2 h3 h4 R C hL hi hK hP hD hS hl hcc hss @N
theorem ca_stand (R : Rl nb v ln io mv sz mk se pv pd) (C : LwC l p s m meth c b L xs) (hL : L ≤ 2560) (hi : i + 4 < L) (hK : va_K D vwCl (TYL cZ cD cI cJ) s) (hP : va_P D vwCl (WA h0 hn hd hq k0 kv ko ks km kt kp kb qo qd cZ cD cI cJ nb v ln go mw th mv io sz mk se pv pd go mw oL oD) H) (hD : va_D (fun q : Nat => s.heap.size ≤ q) (WA h0 hn hd hq k0 kv ko ks km kt kp kb qo qd cZ cD cI cJ nb v ln go mw th mv io sz mk se pv pd go mw oL oD)) (hS : va_S (fun q : Nat => s.heap.size ≤ q) s.heap H locs) (hl : lv_has ls 9 [(5, .int (nI i)), (4, .ref qd), (3, .ref qo), (2, .ref k0), (1, .ref h0), (0, .ref b)]) (hcc : cells + 6 ≤ 3101) (hss : slots + 40 ≤ 21269) (N : LwN p l e s m below meth c b Q D h0 hn hd hq k0 kv ko ks km kt kp kb qo qd cZ cD cI cJ i (cells + 6) (slots + 40)) : W p l e room_1 s m #[Value.ref b] below meth c H locs cells slots Q (F0 m 1270 ls []) := by
  obtain ⟨x1, h1⟩ : ∃ x, xs (nI (i + 1)).toNatClampNeg = x := ⟨_, rfl⟩
  by_cases q : InN 6 x1
  · obtain ⟨g, hg, rfl⟩ := q
    exact cs_stand hg h1 R C hL hi hK hP hD hS hl hcc hss @N
  · exact cs_stand_bad q h1 R C hL hi hK hP hD hS hl hcc hss @N
theorem ca_order (R : Rl nb v ln io mv sz mk se pv pd) (C : LwC l p s m meth c b L xs) (hL : L ≤ 2560) (hi : i + 4 < L) (hK : va_K D vwCl (TYL cZ cD cI cJ) s) (hP : va_P D vwCl (WA h0 hn hd hq k0 kv ko ks km kt kp kb qo qd cZ cD cI cJ nb v ln go mw th mv io sz mk se pv pd go mw oL oD) H) (hD : va_D (fun q : Nat => s.heap.size ≤ q) (WA h0 hn hd hq k0 kv ko ks km kt kp kb qo qd cZ cD cI cJ nb v ln go mw th mv io sz mk se pv pd go mw oL oD)) (hS : va_S (fun q : Nat => s.heap.size ≤ q) s.heap H locs) (hl : lv_has ls 9 [(5, .int (nI i)), (4, .ref qd), (3, .ref qo), (2, .ref k0), (1, .ref h0), (0, .ref b)]) (hcc : cells + 6 ≤ 3101) (hss : slots + 40 ≤ 21269) (N : LwN p l e s m below meth c b Q D h0 hn hd hq k0 kv ko ks km kt kp kb qo qd cZ cD cI cJ i (cells + 6) (slots + 40)) : W p l e room_1 s m #[Value.ref b] below meth c H locs cells slots Q (F0 m 1326 ls []) := by
  obtain ⟨x1, h1⟩ : ∃ x, xs (nI (i + 1)).toNatClampNeg = x := ⟨_, rfl⟩
  by_cases q : InN 6 x1
  · obtain ⟨k, hk, rfl⟩ := q
    exact cs_order hk h1 R C hL hi hK hP hD hS hl hcc hss @N
  · exact cs_order_bad q h1 R C hL hi hK hP hD hS hl hcc hss @N
theorem ca_highest (R : Rl nb v ln io mv sz mk se pv pd) (C : LwC l p s m meth c b L xs) (hL : L ≤ 2560) (hi : i + 4 < L) (hK : va_K D vwCl (TYL cZ cD cI cJ) s) (hP : va_P D vwCl (WA h0 hn hd hq k0 kv ko ks km kt kp kb qo qd cZ cD cI cJ nb v ln go mw th mv io sz mk se pv pd go mw oL oD) H) (hD : va_D (fun q : Nat => s.heap.size ≤ q) (WA h0 hn hd hq k0 kv ko ks km kt kp kb qo qd cZ cD cI cJ nb v ln go mw th mv io sz mk se pv pd go mw oL oD)) (hS : va_S (fun q : Nat => s.heap.size ≤ q) s.heap H locs) (hl : lv_has ls 9 [(5, .int (nI i)), (4, .ref qd), (3, .ref qo), (2, .ref k0), (1, .ref h0), (0, .ref b)]) (hcc : cells + 6 ≤ 3101) (hss : slots + 40 ≤ 21269) (N : LwN p l e s m below meth c b Q D h0 hn hd hq k0 kv ko ks km kt kp kb qo qd cZ cD cI cJ i (cells + 6) (slots + 40)) : W p l e room_1 s m #[Value.ref b] below meth c H locs cells slots Q (F0 m 1382 ls []) := by
  obtain ⟨x1, h1⟩ : ∃ x, xs (nI (i + 1)).toNatClampNeg = x := ⟨_, rfl⟩
  by_cases q : InN 6 x1
  · obtain ⟨g, hg, rfl⟩ := q
    by_cases z : bs nb v (g * 2 + 0) 2 (ln (g * 2 + 0)) = 164
    · exact cs_highest_none hg z h1 R C hL hi hK hP hD hS hl hcc hss @N
    · exact cs_highest hg z h1 R C hL hi hK hP hD hS hl hcc hss @N
  · exact cs_highest_bad q h1 R C hL hi hK hP hD hS hl hcc hss @N
theorem ca_calmest (R : Rl nb v ln io mv sz mk se pv pd) (C : LwC l p s m meth c b L xs) (hL : L ≤ 2560) (hi : i + 4 < L) (hK : va_K D vwCl (TYL cZ cD cI cJ) s) (hP : va_P D vwCl (WA h0 hn hd hq k0 kv ko ks km kt kp kb qo qd cZ cD cI cJ nb v ln go mw th mv io sz mk se pv pd go mw oL oD) H) (hD : va_D (fun q : Nat => s.heap.size ≤ q) (WA h0 hn hd hq k0 kv ko ks km kt kp kb qo qd cZ cD cI cJ nb v ln go mw th mv io sz mk se pv pd go mw oL oD)) (hS : va_S (fun q : Nat => s.heap.size ≤ q) s.heap H locs) (hl : lv_has ls 9 [(5, .int (nI i)), (4, .ref qd), (3, .ref qo), (2, .ref k0), (1, .ref h0), (0, .ref b)]) (hcc : cells + 6 ≤ 3101) (hss : slots + 40 ≤ 21269) (N : LwN p l e s m below meth c b Q D h0 hn hd hq k0 kv ko ks km kt kp kb qo qd cZ cD cI cJ i (cells + 6) (slots + 40)) : W p l e room_1 s m #[Value.ref b] below meth c H locs cells slots Q (F0 m 1459 ls []) := by
  obtain ⟨x1, h1⟩ : ∃ x, xs (nI (i + 1)).toNatClampNeg = x := ⟨_, rfl⟩
  by_cases q : InN 6 x1
  · obtain ⟨g, hg, rfl⟩ := q
    by_cases z : bs nb v (g * 2 + 1) 0 (ln (g * 2 + 1)) = 164
    · exact cs_calmest_none hg z h1 R C hL hi hK hP hD hS hl hcc hss @N
    · exact cs_calmest hg z h1 R C hL hi hK hP hD hS hl hcc hss @N
  · exact cs_calmest_bad q h1 R C hL hi hK hP hD hS hl hcc hss @N
theorem ca_same (R : Rl nb v ln io mv sz mk se pv pd) (C : LwC l p s m meth c b L xs) (hL : L ≤ 2560) (hi : i + 4 < L) (hK : va_K D vwCl (TYL cZ cD cI cJ) s) (hP : va_P D vwCl (WA h0 hn hd hq k0 kv ko ks km kt kp kb qo qd cZ cD cI cJ nb v ln go mw th mv io sz mk se pv pd go mw oL oD) H) (hD : va_D (fun q : Nat => s.heap.size ≤ q) (WA h0 hn hd hq k0 kv ko ks km kt kp kb qo qd cZ cD cI cJ nb v ln go mw th mv io sz mk se pv pd go mw oL oD)) (hS : va_S (fun q : Nat => s.heap.size ≤ q) s.heap H locs) (hl : lv_has ls 9 [(5, .int (nI i)), (4, .ref qd), (3, .ref qo), (2, .ref k0), (1, .ref h0), (0, .ref b)]) (hcc : cells + 6 ≤ 3101) (hss : slots + 40 ≤ 21269) (N : LwN p l e s m below meth c b Q D h0 hn hd hq k0 kv ko ks km kt kp kb qo qd cZ cD cI cJ i (cells + 6) (slots + 40)) : W p l e room_1 s m #[Value.ref b] below meth c H locs cells slots Q (F0 m 1537 ls []) := by
  obtain ⟨x1, h1⟩ : ∃ x, xs (nI (i + 1)).toNatClampNeg = x := ⟨_, rfl⟩
  obtain ⟨x2, h2⟩ : ∃ x, xs (nI (i + 2)).toNatClampNeg = x := ⟨_, rfl⟩
  by_cases q : InN 6 x1 ∧ InN 6 x2
  · obtain ⟨⟨g, hg, rfl⟩, ⟨h, hh, rfl⟩⟩ := q
    exact cs_same hg hh h1 h2 R C hL hi hK hP hD hS hl hcc hss @N
  · exact cs_same_bad q h1 h2 R C hL hi hK hP hD hS hl hcc hss @N
theorem ca_move (R : Rl nb v ln io mv sz mk se pv pd) (C : LwC l p s m meth c b L xs) (hL : L ≤ 2560) (hi : i + 4 < L) (hK : va_K D vwCl (TYL cZ cD cI cJ) s) (hP : va_P D vwCl (WA h0 hn hd hq k0 kv ko ks km kt kp kb qo qd cZ cD cI cJ nb v ln go mw th mv io sz mk se pv pd go mw oL oD) H) (hD : va_D (fun q : Nat => s.heap.size ≤ q) (WA h0 hn hd hq k0 kv ko ks km kt kp kb qo qd cZ cD cI cJ nb v ln go mw th mv io sz mk se pv pd go mw oL oD)) (hS : va_S (fun q : Nat => s.heap.size ≤ q) s.heap H locs) (hl : lv_has ls 9 [(5, .int (nI i)), (4, .ref qd), (3, .ref qo), (2, .ref k0), (1, .ref h0), (0, .ref b)]) (hcc : cells + 6 ≤ 3101) (hss : slots + 40 ≤ 21269) (N : LwN p l e s m below meth c b Q D h0 hn hd hq k0 kv ko ks km kt kp kb qo qd cZ cD cI cJ i (cells + 6) (slots + 40)) : W p l e room_1 s m #[Value.ref b] below meth c H locs cells slots Q (F0 m 1605 ls []) := by
  obtain ⟨x1, h1⟩ : ∃ x, xs (nI (i + 1)).toNatClampNeg = x := ⟨_, rfl⟩
  by_cases hz : x1 = 0
  · by_cases hgo : go = true
    · by_cases s1 : rp nb v (lp ln (0 * 2 + 0)) (144 + 0 * 3 + 0) 2 = true
      · exact cs_move_x3 hz hgo s1 h1 R C hL hi hK hP hD hS hl hcc hss @N
      · by_cases s2 : rp nb v (lp ln (1 * 2 + 0)) (144 + 0 * 3 + 1) 1 = true
        · exact cs_move_x4 hz hgo (bnf s1) s2 h1 R C hL hi hK hP hD hS hl hcc hss @N
        · exact cs_move_shut hz hgo (bnf s1) (bnf s2) h1 R C hL hi hK hP hD hS hl hcc hss @N
    · exact cs_move_already_false hz (bnf hgo) h1 R C hL hi hK hP hD hS hl hcc hss @N
  · by_cases hgo : go = true
    · exact cs_move_already_true hz hgo h1 R C hL hi hK hP hD hS hl hcc hss @N
    · by_cases o1 : rp nb v (lp ln (0 * 2 + 0)) (lp ln (1 * 2 + 0)) 2 = true
      · by_cases o2 : nb (144 + 1 * 3 + 2) = true
        · by_cases o3 : rp nb v (lp ln (1 * 2 + 1)) (144 + 1 * 3 + 2) 0 = true
          · exact cs_move_open hz (bnf hgo) o1 (Or.inr o3) h1 R C hL hi hK hP hD hS hl hcc hss @N
          · exact cs_move_x2 hz (bnf hgo) o1 o2 (bnf o3) h1 R C hL hi hK hP hD hS hl hcc hss @N
        · exact cs_move_open hz (bnf hgo) o1 (Or.inl (bnf o2)) h1 R C hL hi hK hP hD hS hl hcc hss @N
      · exact cs_move_x1 hz (bnf hgo) (bnf o1) h1 R C hL hi hK hP hD hS hl hcc hss @N
theorem ca_size (R : Rl nb v ln io mv sz mk se pv pd) (C : LwC l p s m meth c b L xs) (hL : L ≤ 2560) (hi : i + 4 < L) (hK : va_K D vwCl (TYL cZ cD cI cJ) s) (hP : va_P D vwCl (WA h0 hn hd hq k0 kv ko ks km kt kp kb qo qd cZ cD cI cJ nb v ln go mw th mv io sz mk se pv pd go mw oL oD) H) (hD : va_D (fun q : Nat => s.heap.size ≤ q) (WA h0 hn hd hq k0 kv ko ks km kt kp kb qo qd cZ cD cI cJ nb v ln go mw th mv io sz mk se pv pd go mw oL oD)) (hS : va_S (fun q : Nat => s.heap.size ≤ q) s.heap H locs) (hl : lv_has ls 9 [(5, .int (nI i)), (4, .ref qd), (3, .ref qo), (2, .ref k0), (1, .ref h0), (0, .ref b)]) (hcc : cells + 6 ≤ 3101) (hss : slots + 40 ≤ 21269) (N : LwN p l e s m below meth c b Q D h0 hn hd hq k0 kv ko ks km kt kp kb qo qd cZ cD cI cJ i (cells + 6) (slots + 40)) : W p l e room_1 s m #[Value.ref b] below meth c H locs cells slots Q (F0 m 1677 ls []) := by
  obtain ⟨x1, h1⟩ : ∃ x, xs (nI (i + 1)).toNatClampNeg = x := ⟨_, rfl⟩
  obtain ⟨x2, h2⟩ : ∃ x, xs (nI (i + 2)).toNatClampNeg = x := ⟨_, rfl⟩
  by_cases q : InN 6 x1 ∧ InN 2 x2
  · obtain ⟨⟨g, hg, rfl⟩, ⟨w, hw, rfl⟩⟩ := q
    exact cs_size hg hw h1 h2 R C hL hi hK hP hD hS hl hcc hss @N
  · exact cs_size_bad q h1 h2 R C hL hi hK hP hD hS hl hcc hss @N
end CA
