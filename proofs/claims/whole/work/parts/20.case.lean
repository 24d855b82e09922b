/-! The law's cases: from the case's first row to the next round. -/
theorem sc_in {i L : Nat} (h : i < L) (hL : L ≤ 2560) : vp_in (nI i) L := vp_in_nI h (by omega)
theorem lc_eq {a b : Int64} (h : a = b) : lg_cmp a b = 0 := by subst h; simp [lg_cmp]
def LwN (p : Program) (l : Launch) (e : Env) (s : State) (m : MethodId) (below : List Frame) (meth : Method) (c : Code) (b : Nat) (Q : State → Prop) (D : va_G) (h0 hn hd hq k0 kv ko ks km kt kp kb qo qd : Nat) (cZ cD cI cJ : ClassId) (i cells slots : Nat) : Prop :=
  ∀ {nb : Nat → Bool} {v : Nat → UInt64} {ln : Nat → Nat} {go : Bool} {mw : Int32} {th : Nat} {mv : Nat → UInt64} {io : Nat → Bool} {sz : Nat → Nat} {mk : Nat → UInt64} {se : Nat → Bool} {pv : Nat → UInt64} {pd : Nat → Bool} {oL : Nat → Int64} {oD : Nat → UInt64} {H : Heap} {locs : List Loc} {ls : Array Slot}, Rl nb v ln io mv sz mk se pv pd → va_P D vwCl (WA h0 hn hd hq k0 kv ko ks km kt kp kb qo qd cZ cD cI cJ nb v ln go mw th mv io sz mk se pv pd go mw oL oD) H → va_D (fun q : Nat => s.heap.size ≤ q) (WA h0 hn hd hq k0 kv ko ks km kt kp kb qo qd cZ cD cI cJ nb v ln go mw th mv io sz mk se pv pd go mw oL oD) → va_S (fun q : Nat => s.heap.size ≤ q) s.heap H locs → lv_has ls 9 [(5, .int (nI i)), (4, .ref qd), (3, .ref qo), (2, .ref k0), (1, .ref h0), (0, .ref b)] → W p l e room_1 s m #[Value.ref b] below meth c H locs cells slots Q (F0 m 1745 ls [])
section CS
variable {p : Program} {l : Launch} {e : Env} {s : State} {m : MethodId} {below : List Frame} {meth : Method} {c : Code} {H : Heap} {locs : List Loc} {cells slots : Nat} {Q : State → Prop} {b L i : Nat} {xs : Nat → Int32} {ls : Array Slot}
variable {D : va_G} {h0 hn hd hq k0 kv ko ks km kt kp kb qo qd : Nat} {cZ cD cI cJ : ClassId} {nb : Nat → Bool} {v : Nat → UInt64} {ln : Nat → Nat} {go : Bool} {mw : Int32} {th : Nat} {mv : Nat → UInt64} {io : Nat → Bool} {sz : Nat → Nat} {mk : Nat → UInt64} {se : Nat → Bool} {pv : Nat → UInt64} {pd : Nat → Bool} {oL : Nat → Int64} {oD : Nat → UInt64}
set_option maxHeartbeats 4000000 in
set_option maxRecDepth 100000 in
theorem cs_level {g : Nat} (hg : g < 6) {x2 : Int32} (hlv : lvl (FP.dmul (FP.i2d x2) 4593671619917905920) = true) (hrm : ln (g * 2 + 0) < 12) (h1 : xs (nI (i + 1)).toNatClampNeg = nI g) (h2 : xs (nI (i + 2)).toNatClampNeg = x2) (R : Rl nb v ln io mv sz mk se pv pd) (C : LwC l p s m meth c b L xs) (hL : L ≤ 2560) (hi : i + 4 < L) (hK : va_K D vwCl (TYL cZ cD cI cJ) s) (hP : va_P D vwCl (WA h0 hn hd hq k0 kv ko ks km kt kp kb qo qd cZ cD cI cJ nb v ln go mw th mv io sz mk se pv pd go mw oL oD) H) (hD : va_D (fun q : Nat => s.heap.size ≤ q) (WA h0 hn hd hq k0 kv ko ks km kt kp kb qo qd cZ cD cI cJ nb v ln go mw th mv io sz mk se pv pd go mw oL oD)) (hS : va_S (fun q : Nat => s.heap.size ≤ q) s.heap H locs) (hl : lv_has ls 9 [(5, .int (nI i)), (4, .ref qd), (3, .ref qo), (2, .ref k0), (1, .ref h0), (0, .ref b)]) (hcc : cells + 6 ≤ 3101) (hss : slots + 40 ≤ 21269) (N : LwN p l e s m below meth c b Q D h0 hn hd hq k0 kv ko ks km kt kp kb qo qd cZ cD cI cJ i (cells + 6) (slots + 40)) : W p l e room_1 s m #[Value.ref b] below meth c H locs cells slots Q (F0 m 144 ls []) := by
  have C0 := C
  obtain ⟨hx, hb, hr, hml, hown, hts, hX, hbl, hlocks, hl0, hZ, hxS, hxD, hxN⟩ := C0
  have hbA : ¬ (fun q : Nat => s.heap.size ≤ q) b := Nat.not_le.mpr hbl
  have hcm : room_1.cells = 3101 := rfl
  have hsm : room_1.slots = 21269 := rfl
  have hc_101 := hts (.constantDouble RL 101 4593671619917905920) (by decide +kernel)
  refine lv_aload_n hx hb dL_law_144 rfl (lv_at hl 4 rfl) ?_
  refine lv_aload_n hx hb dL_law_145 rfl (lv_at hl 5 rfl) ?_
  refine lv_iload hx hb dL_law_146 (lv_at hl 0 rfl) ?_
  refine lv_iconst (v := nI 1) hx hb dL_law_148 (by decide) ?_
  refine kn_iadd hx hb dL_law_149 ?_
  refine va_sld hx hb hX hbl hbA hS (sc_in (by omega) hL) dL_law_150 ?_
  refine kt_i (y := nI g) h1 ?_
  refine lv_aload_n hx hb dL_law_151 rfl (lv_at hl 5 rfl) ?_
  refine lv_iload hx hb dL_law_152 (lv_at hl 0 rfl) ?_
  refine lv_iconst (v := nI 2) hx hb dL_law_154 (by decide) ?_
  refine kn_iadd hx hb dL_law_155 ?_
  refine va_sld hx hb hX hbl hbA hS (sc_in (by omega) hL) dL_law_156 ?_
  refine kt_i (y := x2) h2 ?_
  refine lv_i2d hx hb dL_law_157 ?_
  refine lv_ldc2d hx hb hown hc_101 dL_law_158 ?_
  refine lv_dmul hx hb dL_law_161 (n64_of (mul_num _)) ?_
  refine lv_aload_n hx hb dL_law_162 rfl (lv_at hl 2 rfl) ?_
  refine lw_wrapL (As := [.ref h0, .int (nI g), .double (FP.dmul (FP.i2d x2) 4593671619917905920), .ref qo]) C hP hD hS hK hl.1 (w_level l D h0 hn hd hq qo cZ cD cI cJ nb v ln go mw oL R.1 hl0 H.size g (FP.dmul (FP.i2d x2) 4593671619917905920) hg hlv hrm) (vx_cwSW 4 hts gL_law_L_level rfl rfl rfl (by decide +kernel) ⟨Nat.le_of_ble_eq_true rfl, Nat.le_of_ble_eq_true rfl⟩) rfl dL_law_163 (by omega) (by omega) (fun H locs hP hD hS => ?_)
  refine lv_istore (lv' := [(6, .int (nI 0)), (5, .int (nI i)), (4, .ref qd), (3, .ref qo), (2, .ref k0), (1, .ref h0), (0, .ref b)]) hx hb dL_law_166 hl (by decide) rfl (fun ls hl => ?_)
  refine lv_aload_n hx hb dL_law_168 rfl (lv_at hl 4 rfl) ?_
  refine lv_aload_n hx hb dL_law_169 rfl (lv_at hl 6 rfl) ?_
  refine lv_iload hx hb dL_law_170 (lv_at hl 1 rfl) ?_
  refine lv_iconst (v := nI 1) hx hb dL_law_172 (by decide) ?_
  refine kn_iadd hx hb dL_law_173 ?_
  refine va_sld hx hb hX hbl hbA hS (sc_in (by omega) hL) dL_law_174 ?_
  refine kt_i (y := nI g) h1 ?_
  refine lv_aload_n hx hb dL_law_175 rfl (lv_at hl 6 rfl) ?_
  refine lv_iload hx hb dL_law_176 (lv_at hl 1 rfl) ?_
  refine lv_iconst (v := nI 2) hx hb dL_law_178 (by decide) ?_
  refine kn_iadd hx hb dL_law_179 ?_
  refine va_sld hx hb hX hbl hbA hS (sc_in (by omega) hL) dL_law_180 ?_
  refine kt_i (y := x2) h2 ?_
  refine lv_i2d hx hb dL_law_181 ?_
  refine lv_ldc2d hx hb hown hc_101 dL_law_182 ?_
  refine lv_dmul hx hb dL_law_185 (n64_of (mul_num _)) ?_
  refine lw_modi (As := [.int (nI g), .double (FP.dmul (FP.i2d x2) 4593671619917905920)]) C hP hD hS hK hl.1 (c_X1_level l D k0 kv ko ks km kt kp kb cZ cD cI th mv io sz mk se pv pd go mw R.2.1 H.size g (FP.dmul (FP.i2d x2) 4593671619917905920) hg hlv (by rw [R.size0 hg]; exact hrm)) (cwV 2 hts gL_law_X1_level rfl rfl rfl (by decide +kernel) ⟨Nat.le_of_ble_eq_true rfl, Nat.le_of_ble_eq_true rfl⟩) rfl dL_law_186 (by omega) (by omega) (fun H locs hP hD hS => ?_)
  refine lv_istore (lv' := [(7, .int (nI (sz (2 * g) + 1))), (6, .int (nI 0)), (5, .int (nI i)), (4, .ref qd), (3, .ref qo), (2, .ref k0), (1, .ref h0), (0, .ref b)]) hx hb dL_law_189 hl (by decide) rfl (fun ls hl => ?_)
  refine lv_aload_n hx hb dL_law_191 rfl (lv_at hl 5 rfl) ?_
  refine lw_thrown (R.app_t (w := 0) hg (by omega) hrm (lvl_num hlv)).2.1 C hP hK hl.1 dL_law_192 (by omega) (by omega) ?_
  refine kt_i (y := nI 0) (rfl) ?_
  refine lv_iload hx hb dL_law_195 (lv_at hl 1 rfl) ?_
  refine kn_icmp_eq (tgt := 202) hx hb (by decide) (by decide) dL_law_197 (by decide) (fun _ => ?_) (fun h => absurd h (by decide))
  refine lv_iload hx hb dL_law_202 (lv_at hl 1 rfl) ?_
  refine kn_ne (tgt := 219) hx hb (by decide) dL_law_204 (by decide) (fun h => absurd h (by decide)) (fun _ => ?_)
  refine lv_aload_n hx hb dL_law_207 rfl (lv_at hl 4 rfl) ?_
  refine lv_iconst (v := nI 0) hx hb dL_law_208 (by decide) ?_
  refine kn_lald hx hb hK hP 12 3 rfl rfl (by decide) (by decide) dL_law_209 ?_
  refine lv_iload hx hb dL_law_210 (lv_at hl 0 rfl) ?_
  refine lv_i2l hx hb dL_law_212 rfl ?_
  refine W.lcmp hx hb dL_law_213 ?_
  refine lv_if_eq (tgt := 219) hx hb dL_law_214 (by decide) (fun c_x => ?_) (fun h => absurd (lc_eq (by rw [up_s]; exact congrArg Int32.toInt64 (by rw [R.size0 hg]))) h)
  refine lv_goto (tgt := 1745) hx hb dL_law_219 (by decide) ?_
  refine W.widen (k := cells + 6) (n := slots + 40) (by omega) (by omega) ?_
  exact N (R.app_t (w := 0) hg (by omega) hrm (lvl_num hlv)) hP hD hS (lv_sub hl [2, 3, 4, 5, 6, 7] rfl)
set_option maxHeartbeats 4000000 in
set_option maxRecDepth 100000 in
theorem cs_level_full {g : Nat} (hg : g < 6) {x2 : Int32} (hlv : lvl (FP.dmul (FP.i2d x2) 4593671619917905920) = true) (hfull : ln (g * 2 + 0) = 12) (h1 : xs (nI (i + 1)).toNatClampNeg = nI g) (h2 : xs (nI (i + 2)).toNatClampNeg = x2) (R : Rl nb v ln io mv sz mk se pv pd) (C : LwC l p s m meth c b L xs) (hL : L ≤ 2560) (hi : i + 4 < L) (hK : va_K D vwCl (TYL cZ cD cI cJ) s) (hP : va_P D vwCl (WA h0 hn hd hq k0 kv ko ks km kt kp kb qo qd cZ cD cI cJ nb v ln go mw th mv io sz mk se pv pd go mw oL oD) H) (hD : va_D (fun q : Nat => s.heap.size ≤ q) (WA h0 hn hd hq k0 kv ko ks km kt kp kb qo qd cZ cD cI cJ nb v ln go mw th mv io sz mk se pv pd go mw oL oD)) (hS : va_S (fun q : Nat => s.heap.size ≤ q) s.heap H locs) (hl : lv_has ls 9 [(5, .int (nI i)), (4, .ref qd), (3, .ref qo), (2, .ref k0), (1, .ref h0), (0, .ref b)]) (hcc : cells + 6 ≤ 3101) (hss : slots + 40 ≤ 21269) (N : LwN p l e s m below meth c b Q D h0 hn hd hq k0 kv ko ks km kt kp kb qo qd cZ cD cI cJ i (cells + 6) (slots + 40)) : W p l e room_1 s m #[Value.ref b] below meth c H locs cells slots Q (F0 m 144 ls []) := by
  have C0 := C
  obtain ⟨hx, hb, hr, hml, hown, hts, hX, hbl, hlocks, hl0, hZ, hxS, hxD, hxN⟩ := C0
  have hbA : ¬ (fun q : Nat => s.heap.size ≤ q) b := Nat.not_le.mpr hbl
  have hcm : room_1.cells = 3101 := rfl
  have hsm : room_1.slots = 21269 := rfl
  have hc_101 := hts (.constantDouble RL 101 4593671619917905920) (by decide +kernel)
  refine lv_aload_n hx hb dL_law_144 rfl (lv_at hl 4 rfl) ?_
  refine lv_aload_n hx hb dL_law_145 rfl (lv_at hl 5 rfl) ?_
  refine lv_iload hx hb dL_law_146 (lv_at hl 0 rfl) ?_
  refine lv_iconst (v := nI 1) hx hb dL_law_148 (by decide) ?_
  refine kn_iadd hx hb dL_law_149 ?_
  refine va_sld hx hb hX hbl hbA hS (sc_in (by omega) hL) dL_law_150 ?_
  refine kt_i (y := nI g) h1 ?_
  refine lv_aload_n hx hb dL_law_151 rfl (lv_at hl 5 rfl) ?_
  refine lv_iload hx hb dL_law_152 (lv_at hl 0 rfl) ?_
  refine lv_iconst (v := nI 2) hx hb dL_law_154 (by decide) ?_
  refine kn_iadd hx hb dL_law_155 ?_
  refine va_sld hx hb hX hbl hbA hS (sc_in (by omega) hL) dL_law_156 ?_
  refine kt_i (y := x2) h2 ?_
  refine lv_i2d hx hb dL_law_157 ?_
  refine lv_ldc2d hx hb hown hc_101 dL_law_158 ?_
  refine lv_dmul hx hb dL_law_161 (n64_of (mul_num _)) ?_
  refine lv_aload_n hx hb dL_law_162 rfl (lv_at hl 2 rfl) ?_
  refine lw_wrapL (As := [.ref h0, .int (nI g), .double (FP.dmul (FP.i2d x2) 4593671619917905920), .ref qo]) C hP hD hS hK hl.1 (w_level_full l D h0 hn hd hq qo cZ cD cI cJ nb v ln go mw oL R.1 hl0 H.size g (FP.dmul (FP.i2d x2) 4593671619917905920) hg hlv hfull) (vx_cwSW 4 hts gL_law_L_level rfl rfl rfl (by decide +kernel) ⟨Nat.le_of_ble_eq_true rfl, Nat.le_of_ble_eq_true rfl⟩) rfl dL_law_163 (by omega) (by omega) (fun H locs hP hD hS => ?_)
  refine lv_istore (lv' := [(6, .int (nI 2)), (5, .int (nI i)), (4, .ref qd), (3, .ref qo), (2, .ref k0), (1, .ref h0), (0, .ref b)]) hx hb dL_law_166 hl (by decide) rfl (fun ls hl => ?_)
  refine lv_aload_n hx hb dL_law_168 rfl (lv_at hl 4 rfl) ?_
  refine lv_aload_n hx hb dL_law_169 rfl (lv_at hl 6 rfl) ?_
  refine lv_iload hx hb dL_law_170 (lv_at hl 1 rfl) ?_
  refine lv_iconst (v := nI 1) hx hb dL_law_172 (by decide) ?_
  refine kn_iadd hx hb dL_law_173 ?_
  refine va_sld hx hb hX hbl hbA hS (sc_in (by omega) hL) dL_law_174 ?_
  refine kt_i (y := nI g) h1 ?_
  refine lv_aload_n hx hb dL_law_175 rfl (lv_at hl 6 rfl) ?_
  refine lv_iload hx hb dL_law_176 (lv_at hl 1 rfl) ?_
  refine lv_iconst (v := nI 2) hx hb dL_law_178 (by decide) ?_
  refine kn_iadd hx hb dL_law_179 ?_
  refine va_sld hx hb hX hbl hbA hS (sc_in (by omega) hL) dL_law_180 ?_
  refine kt_i (y := x2) h2 ?_
  refine lv_i2d hx hb dL_law_181 ?_
  refine lv_ldc2d hx hb hown hc_101 dL_law_182 ?_
  refine lv_dmul hx hb dL_law_185 (n64_of (mul_num _)) ?_
  refine lw_modi (As := [.int (nI g), .double (FP.dmul (FP.i2d x2) 4593671619917905920)]) C hP hD hS hK hl.1 (c_X1_level_full l D k0 kv ko ks km kt kp kb cZ cD cI th mv io sz mk se pv pd go mw R.2.1 H.size g (FP.dmul (FP.i2d x2) 4593671619917905920) hg hlv (by rw [R.size0 hg]; exact hfull)) (cwV 2 hts gL_law_X1_level rfl rfl rfl (by decide +kernel) ⟨Nat.le_of_ble_eq_true rfl, Nat.le_of_ble_eq_true rfl⟩) rfl dL_law_186 (by omega) (by omega) (fun H locs hP hD hS => ?_)
  refine lv_istore (lv' := [(7, .int (nI 0)), (6, .int (nI 2)), (5, .int (nI i)), (4, .ref qd), (3, .ref qo), (2, .ref k0), (1, .ref h0), (0, .ref b)]) hx hb dL_law_189 hl (by decide) rfl (fun ls hl => ?_)
  refine lv_aload_n hx hb dL_law_191 rfl (lv_at hl 5 rfl) ?_
  refine lw_thrown (R).2.1 C hP hK hl.1 dL_law_192 (by omega) (by omega) ?_
  refine kt_i (y := nI 2) (rfl) ?_
  refine lv_iload hx hb dL_law_195 (lv_at hl 1 rfl) ?_
  refine kn_icmp_eq (tgt := 202) hx hb (by decide) (by decide) dL_law_197 (by decide) (fun _ => ?_) (fun h => absurd h (by decide))
  refine lv_iload hx hb dL_law_202 (lv_at hl 1 rfl) ?_
  refine kn_ne (tgt := 219) hx hb (by decide) dL_law_204 (by decide) (fun _ => ?_) (fun h => absurd h (by decide))
  refine lv_goto (tgt := 1745) hx hb dL_law_219 (by decide) ?_
  refine W.widen (k := cells + 6) (n := slots + 40) (by omega) (by omega) ?_
  exact N R hP hD hS (lv_sub hl [2, 3, 4, 5, 6, 7] rfl)
set_option maxHeartbeats 4000000 in
set_option maxRecDepth 100000 in
theorem cs_level_bad {x1 x2 : Int32} (hbad : ¬ (InN 6 x1 ∧ lvl (FP.dmul (FP.i2d x2) 4593671619917905920) = true)) (h1 : xs (nI (i + 1)).toNatClampNeg = x1) (h2 : xs (nI (i + 2)).toNatClampNeg = x2) (R : Rl nb v ln io mv sz mk se pv pd) (C : LwC l p s m meth c b L xs) (hL : L ≤ 2560) (hi : i + 4 < L) (hK : va_K D vwCl (TYL cZ cD cI cJ) s) (hP : va_P D vwCl (WA h0 hn hd hq k0 kv ko ks km kt kp kb qo qd cZ cD cI cJ nb v ln go mw th mv io sz mk se pv pd go mw oL oD) H) (hD : va_D (fun q : Nat => s.heap.size ≤ q) (WA h0 hn hd hq k0 kv ko ks km kt kp kb qo qd cZ cD cI cJ nb v ln go mw th mv io sz mk se pv pd go mw oL oD)) (hS : va_S (fun q : Nat => s.heap.size ≤ q) s.heap H locs) (hl : lv_has ls 9 [(5, .int (nI i)), (4, .ref qd), (3, .ref qo), (2, .ref k0), (1, .ref h0), (0, .ref b)]) (hcc : cells + 6 ≤ 3101) (hss : slots + 40 ≤ 21269) (N : LwN p l e s m below meth c b Q D h0 hn hd hq k0 kv ko ks km kt kp kb qo qd cZ cD cI cJ i (cells + 6) (slots + 40)) : W p l e room_1 s m #[Value.ref b] below meth c H locs cells slots Q (F0 m 144 ls []) := by
  have C0 := C
  obtain ⟨hx, hb, hr, hml, hown, hts, hX, hbl, hlocks, hl0, hZ, hxS, hxD, hxN⟩ := C0
  have hbA : ¬ (fun q : Nat => s.heap.size ≤ q) b := Nat.not_le.mpr hbl
  have hcm : room_1.cells = 3101 := rfl
  have hsm : room_1.slots = 21269 := rfl
  have hc_101 := hts (.constantDouble RL 101 4593671619917905920) (by decide +kernel)
  refine lv_aload_n hx hb dL_law_144 rfl (lv_at hl 4 rfl) ?_
  refine lv_aload_n hx hb dL_law_145 rfl (lv_at hl 5 rfl) ?_
  refine lv_iload hx hb dL_law_146 (lv_at hl 0 rfl) ?_
  refine lv_iconst (v := nI 1) hx hb dL_law_148 (by decide) ?_
  refine kn_iadd hx hb dL_law_149 ?_
  refine va_sld hx hb hX hbl hbA hS (sc_in (by omega) hL) dL_law_150 ?_
  refine kt_i (y := x1) h1 ?_
  refine lv_aload_n hx hb dL_law_151 rfl (lv_at hl 5 rfl) ?_
  refine lv_iload hx hb dL_law_152 (lv_at hl 0 rfl) ?_
  refine lv_iconst (v := nI 2) hx hb dL_law_154 (by decide) ?_
  refine kn_iadd hx hb dL_law_155 ?_
  refine va_sld hx hb hX hbl hbA hS (sc_in (by omega) hL) dL_law_156 ?_
  refine kt_i (y := x2) h2 ?_
  refine lv_i2d hx hb dL_law_157 ?_
  refine lv_ldc2d hx hb hown hc_101 dL_law_158 ?_
  refine lv_dmul hx hb dL_law_161 (n64_of (mul_num _)) ?_
  refine lv_aload_n hx hb dL_law_162 rfl (lv_at hl 2 rfl) ?_
  refine lw_wrapL (As := [.ref h0, .int x1, .double (FP.dmul (FP.i2d x2) 4593671619917905920), .ref qo]) C hP hD hS hK hl.1 (w_level_bad l D h0 hn hd hq qo cZ cD cI cJ nb v ln go mw oL R.1 hl0 H.size x1 (FP.dmul (FP.i2d x2) 4593671619917905920) hbad) (vx_cwSW 4 hts gL_law_L_level rfl rfl rfl (by decide +kernel) ⟨Nat.le_of_ble_eq_true rfl, Nat.le_of_ble_eq_true rfl⟩) rfl dL_law_163 (by omega) (by omega) (fun H locs hP hD hS => ?_)
  refine lv_istore (lv' := [(6, .int (nI 1)), (5, .int (nI i)), (4, .ref qd), (3, .ref qo), (2, .ref k0), (1, .ref h0), (0, .ref b)]) hx hb dL_law_166 hl (by decide) rfl (fun ls hl => ?_)
  refine lv_aload_n hx hb dL_law_168 rfl (lv_at hl 4 rfl) ?_
  refine lv_aload_n hx hb dL_law_169 rfl (lv_at hl 6 rfl) ?_
  refine lv_iload hx hb dL_law_170 (lv_at hl 1 rfl) ?_
  refine lv_iconst (v := nI 1) hx hb dL_law_172 (by decide) ?_
  refine kn_iadd hx hb dL_law_173 ?_
  refine va_sld hx hb hX hbl hbA hS (sc_in (by omega) hL) dL_law_174 ?_
  refine kt_i (y := x1) h1 ?_
  refine lv_aload_n hx hb dL_law_175 rfl (lv_at hl 6 rfl) ?_
  refine lv_iload hx hb dL_law_176 (lv_at hl 1 rfl) ?_
  refine lv_iconst (v := nI 2) hx hb dL_law_178 (by decide) ?_
  refine kn_iadd hx hb dL_law_179 ?_
  refine va_sld hx hb hX hbl hbA hS (sc_in (by omega) hL) dL_law_180 ?_
  refine kt_i (y := x2) h2 ?_
  refine lv_i2d hx hb dL_law_181 ?_
  refine lv_ldc2d hx hb hown hc_101 dL_law_182 ?_
  refine lv_dmul hx hb dL_law_185 (n64_of (mul_num _)) ?_
  refine lw_modi (As := [.int x1, .double (FP.dmul (FP.i2d x2) 4593671619917905920)]) C hP hD hS hK hl.1 (c_X1_level_bad l D k0 kv ko ks km kt kp kb cZ cD cI th mv io sz mk se pv pd go mw R.2.1 H.size x1 (FP.dmul (FP.i2d x2) 4593671619917905920) hbad) (cwV 2 hts gL_law_X1_level rfl rfl rfl (by decide +kernel) ⟨Nat.le_of_ble_eq_true rfl, Nat.le_of_ble_eq_true rfl⟩) rfl dL_law_186 (by omega) (by omega) (fun H locs hP hD hS => ?_)
  refine lv_istore (lv' := [(7, .int (nI 0)), (6, .int (nI 1)), (5, .int (nI i)), (4, .ref qd), (3, .ref qo), (2, .ref k0), (1, .ref h0), (0, .ref b)]) hx hb dL_law_189 hl (by decide) rfl (fun ls hl => ?_)
  refine lv_aload_n hx hb dL_law_191 rfl (lv_at hl 5 rfl) ?_
  refine lw_thrown (R).2.1 C hP hK hl.1 dL_law_192 (by omega) (by omega) ?_
  refine kt_i (y := nI 1) (rfl) ?_
  refine lv_iload hx hb dL_law_195 (lv_at hl 1 rfl) ?_
  refine kn_icmp_eq (tgt := 202) hx hb (by decide) (by decide) dL_law_197 (by decide) (fun _ => ?_) (fun h => absurd h (by decide))
  refine lv_iload hx hb dL_law_202 (lv_at hl 1 rfl) ?_
  refine kn_ne (tgt := 219) hx hb (by decide) dL_law_204 (by decide) (fun _ => ?_) (fun h => absurd h (by decide))
  refine lv_goto (tgt := 1745) hx hb dL_law_219 (by decide) ?_
  refine W.widen (k := cells + 6) (n := slots + 40) (by omega) (by omega) ?_
  exact N R hP hD hS (lv_sub hl [2, 3, 4, 5, 6, 7] rfl)
end CS
