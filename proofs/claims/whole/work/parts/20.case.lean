/-! The law's cases: from the case's first row to the next round. -/
theorem sc_in {i L : Nat} (h : i < L) (hL : L ≤ 2560) : vp_in (nI i) L := vp_in_nI h (by omega)
theorem lc_eq {a b : Int64} (h : a = b) : lg_cmp a b = 0 := by subst h; simp [lg_cmp]
def LwN (p : Program) (l : Launch) (e : Env) (s : State) (m : MethodId) (below : List Frame) (meth : Method) (c : Code) (b : Nat) (Q : State → Prop) (D : va_G) (h0 hn hd hq k0 kv ko ks km kt kp kb qo qd : Nat) (cZ cD cI cJ : ClassId) (i cells slots : Nat) : Prop :=
  ∀ {nb : Nat → Bool} {v : Nat → UInt64} {ln : Nat → Nat} {go : Bool} {mw : Int32} {th : Nat} {mv : Nat → UInt64} {io : Nat → Bool} {sz : Nat → Nat} {mk : Nat → UInt64} {se : Nat → Bool} {pv : Nat → UInt64} {pd : Nat → Bool} {oL : Nat → Int64} {oD : Nat → UInt64} {H : Heap} {locs : List Loc} {ls : Array Slot}, Rl nb v ln io mv sz mk se pv pd → va_P D vwCl (WA h0 hn hd hq k0 kv ko ks km kt kp kb qo qd cZ cD cI cJ nb v ln go mw th mv io sz mk se pv pd go mw oL oD) H → va_D (fun q : Nat => s.heap.size ≤ q) (WA h0 hn hd hq k0 kv ko ks km kt kp kb qo qd cZ cD cI cJ nb v ln go mw th mv io sz mk se pv pd go mw oL oD) → va_S (fun q : Nat => s.heap.size ≤ q) s.heap H locs → lv_has ls 9 [(5, .int (nI i)), (4, .ref qd), (3, .ref qo), (2, .ref k0), (1, .ref h0), (0, .ref b)] → W p l e room_1 s m #[Value.ref b] below meth c H locs cells slots Q (F0 m 1745 ls [])
theorem oEq_self {x : UInt64} (h : num x) : oEq (FP.dcmp x x) = true := by
  have h1 := (FP.Core.notNaN_iff x).mp h
  have h2 := (FP.Core.dcmp_eq_key h1 h1).mpr rfl
  show oEq (FP.Core.dcmp x x) = true
  rw [h2]; rfl
section CS
variable {p : Program} {l : Launch} {e : Env} {s : State} {m : MethodId} {below : List Frame} {meth : Method} {c : Code} {H : Heap} {locs : List Loc} {cells slots : Nat} {Q : State → Prop} {b L i : Nat} {xs : Nat → Int32} {ls : Array Slot}
variable {D : va_G} {h0 hn hd hq k0 kv ko ks km kt kp kb qo qd : Nat} {cZ cD cI cJ : ClassId} {nb : Nat → Bool} {v : Nat → UInt64} {ln : Nat → Nat} {go : Bool} {mw : Int32} {th : Nat} {mv : Nat → UInt64} {io : Nat → Bool} {sz : Nat → Nat} {mk : Nat → UInt64} {se : Nat → Bool} {pv : Nat → UInt64} {pd : Nat → Bool} {oL : Nat → Int64} {oD : Nat → UInt64}
set_option maxHeartbeats 4000000 in
set_option maxRecDepth 100000 in
theorem cs_level {g : Nat} (hg : g < 6) {x2 : Int32} (hlv : lvl (FP.dmul (FP.i2d x2) 4593671619917905920) = true) (hrm : ln (g * 2 + 0) < 12) (h1 : xs (nI (i + 1)).toNatClampNeg = nI g) (h2 : xs (nI (i + 2)).toNatClampNeg = x2) (R : Rl nb v ln io mv sz mk se pv pd) (C : LwC l p s m meth c b L xs) (hL : L ≤ 2560) (hi : i + 4 < L) (hK : va_K D vwCl (TYL cZ cD cI cJ) s) (hP : va_P D vwCl (WA h0 hn hd hq k0 kv ko ks km kt kp kb qo qd cZ cD cI cJ nb v ln go mw th mv io sz mk se pv pd go mw oL oD) H) (hD : va_D (fun q : Nat => s.heap.size ≤ q) (WA h0 hn hd hq k0 kv ko ks km kt kp kb qo qd cZ cD cI cJ nb v ln go mw th mv io sz mk se pv pd go mw oL oD)) (hS : va_S (fun q : Nat => s.heap.size ≤ q) s.heap H locs) (hl : lv_has ls 9 [(5, .int (nI i)), (4, .ref qd), (3, .ref qo), (2, .ref k0), (1, .ref h0), (0, .ref b)]) (hcc : cells + 6 ≤ 3101) (hss : slots + 40 ≤ 21269) (N : LwN p l e s m below meth c b Q D h0 hn hd hq k0 kv ko ks km kt kp kb qo qd cZ cD cI cJ i (cells + 6) (slots + 40)) : W p l e room_1 s m #[Value.ref b] below meth c H locs cells slots Q (F0 m 144 ls []) := by
  have C0 := C
  obtain ⟨hx, hb, hr, hml, hown, hts, hX, hbl, hlocks, hl0, hZ, hxS, hxD, hxN⟩ := C0
  have hbA : ¬ (fun q : Nat => s.heap.size ≤ q) b := Nat.not_le.mpr hbl
  have hcm : room_1.cells = 3101 := rfl
  have hsm : room_1.slots = 21269 := rfl
  have hc_101 := hts (.constantDouble RL 101 4593671619917905920) (by decide +kernel)
  refine lv_aload_n hx hb dL_law_144 rfl (lv_at hl 4 rfl) ?_
  refine lv_aload_n hx hb dL_law_145 rfl (lv_at hl 5 rfl) ?_
  refine lv_iload hx hb dL_law_146 (lv_at hl 0 rfl) ?_
  refine lv_iconst (v := nI 1) hx hb dL_law_148 (by decide) ?_
  refine kn_iadd hx hb dL_law_149 ?_
  refine va_sld hx hb hX hbl hbA hS (sc_in (by omega) hL) dL_law_150 ?_
  refine kt_i (y := nI g) h1 ?_
  refine lv_aload_n hx hb dL_law_151 rfl (lv_at hl 5 rfl) ?_
  refine lv_iload hx hb dL_law_152 (lv_at hl 0 rfl) ?_
  refine lv_iconst (v := nI 2) hx hb dL_law_154 (by decide) ?_
  refine kn_iadd hx hb dL_law_155 ?_
  refine va_sld hx hb hX hbl hbA hS (sc_in (by omega) hL) dL_law_156 ?_
  refine kt_i (y := x2) h2 ?_
  refine lv_i2d hx hb dL_law_157 ?_
  refine lv_ldc2d hx hb hown hc_101 dL_law_158 ?_
  refine lv_dmul hx hb dL_law_161 (n64_of (mul_num _)) ?_
  refine lv_aload_n hx hb dL_law_162 rfl (lv_at hl 2 rfl) ?_
  refine lw_wrapL (As := [.ref h0, .int (nI g), .double (FP.dmul (FP.i2d x2) 4593671619917905920), .ref qo]) C hP hD hS hK hl.1 (w_level l D h0 hn hd hq qo cZ cD cI cJ nb v ln go mw oL R.1 hl0 H.size g (FP.dmul (FP.i2d x2) 4593671619917905920) hg hlv hrm) (vx_cwSW 4 hts gL_law_L_level rfl rfl rfl (by decide +kernel) ⟨Nat.le_of_ble_eq_true rfl, Nat.le_of_ble_eq_true rfl⟩) rfl dL_law_163 (by omega) (by omega) (fun H locs hP hD hS => ?_)
  refine lv_istore (lv' := [(6, .int (nI 0)), (5, .int (nI i)), (4, .ref qd), (3, .ref qo), (2, .ref k0), (1, .ref h0), (0, .ref b)]) hx hb dL_law_166 hl (by decide) rfl (fun ls hl => ?_)
  refine lv_aload_n hx hb dL_law_168 rfl (lv_at hl 4 rfl) ?_
  refine lv_aload_n hx hb dL_law_169 rfl (lv_at hl 6 rfl) ?_
  refine lv_iload hx hb dL_law_170 (lv_at hl 1 rfl) ?_
  refine lv_iconst (v := nI 1) hx hb dL_law_172 (by decide) ?_
  refine kn_iadd hx hb dL_law_173 ?_
  refine va_sld hx hb hX hbl hbA hS (sc_in (by omega) hL) dL_law_174 ?_
  refine kt_i (y := nI g) h1 ?_
  refine lv_aload_n hx hb dL_law_175 rfl (lv_at hl 6 rfl) ?_
  refine lv_iload hx hb dL_law_176 (lv_at hl 1 rfl) ?_
  refine lv_iconst (v := nI 2) hx hb dL_law_178 (by decide) ?_
  refine kn_iadd hx hb dL_law_179 ?_
  refine va_sld hx hb hX hbl hbA hS (sc_in (by omega) hL) dL_law_180 ?_
  refine kt_i (y := x2) h2 ?_
  refine lv_i2d hx hb dL_law_181 ?_
  refine lv_ldc2d hx hb hown hc_101 dL_law_182 ?_
  refine lv_dmul hx hb dL_law_185 (n64_of (mul_num _)) ?_
  refine lw_modi (As := [.int (nI g), .double (FP.dmul (FP.i2d x2) 4593671619917905920)]) C hP hD hS hK hl.1 (c_X1_level l D k0 kv ko ks km kt kp kb cZ cD cI th mv io sz mk se pv pd go mw R.2.1 H.size g (FP.dmul (FP.i2d x2) 4593671619917905920) hg hlv (by rw [R.size0 hg]; exact hrm)) (cwV 2 hts gL_law_X1_level rfl rfl rfl (by decide +kernel) ⟨Nat.le_of_ble_eq_true rfl, Nat.le_of_ble_eq_true rfl⟩) rfl dL_law_186 (by omega) (by omega) (fun H locs hP hD hS => ?_)
  refine lv_istore (lv' := [(7, .int (nI (sz (2 * g) + 1))), (6, .int (nI 0)), (5, .int (nI i)), (4, .ref qd), (3, .ref qo), (2, .ref k0), (1, .ref h0), (0, .ref b)]) hx hb dL_law_189 hl (by decide) rfl (fun ls hl => ?_)
  refine lv_aload_n hx hb dL_law_191 rfl (lv_at hl 5 rfl) ?_
  refine lw_thrown (R.app_t (w := 0) hg (by omega) hrm (lvl_num hlv)).2.1 C hP hK hl.1 dL_law_192 (by omega) (by omega) ?_
  refine kt_i (y := nI 0) (rfl) ?_
  refine lv_iload hx hb dL_law_195 (lv_at hl 1 rfl) ?_
  refine kn_icmp_eq (tgt := 202) hx hb (by decide) (by decide) dL_law_197 (by decide) (fun _ => ?_) (fun h => absurd h (by decide))
  refine lv_iload hx hb dL_law_202 (lv_at hl 1 rfl) ?_
  refine kn_ne (tgt := 219) hx hb (by decide) dL_law_204 (by decide) (fun h => absurd h (by decide)) (fun _ => ?_)
  refine lv_aload_n hx hb dL_law_207 rfl (lv_at hl 4 rfl) ?_
  refine lv_iconst (v := nI 0) hx hb dL_law_208 (by decide) ?_
  refine kn_lald hx hb hK hP 12 3 rfl rfl (by decide) (by decide) dL_law_209 ?_
  refine lv_iload hx hb dL_law_210 (lv_at hl 0 rfl) ?_
  refine lv_i2l hx hb dL_law_212 rfl ?_
  refine W.lcmp hx hb dL_law_213 ?_
  refine lv_if_eq (tgt := 219) hx hb dL_law_214 (by decide) (fun c_x => ?_) (fun h => absurd (lc_eq (by rw [up_s]; exact congrArg Int32.toInt64 (by rw [R.size0 hg]))) h)
  refine lv_goto (tgt := 1745) hx hb dL_law_219 (by decide) ?_
  refine W.widen (k := cells + 6) (n := slots + 40) (by omega) (by omega) ?_
  exact N (R.app_t (w := 0) hg (by omega) hrm (lvl_num hlv)) hP hD hS (lv_sub hl [2, 3, 4, 5, 6, 7] rfl)
set_option maxHeartbeats 4000000 in
set_option maxRecDepth 100000 in
theorem cs_level_full {g : Nat} (hg : g < 6) {x2 : Int32} (hlv : lvl (FP.dmul (FP.i2d x2) 4593671619917905920) = true) (hfull : ln (g * 2 + 0) = 12) (h1 : xs (nI (i + 1)).toNatClampNeg = nI g) (h2 : xs (nI (i + 2)).toNatClampNeg = x2) (R : Rl nb v ln io mv sz mk se pv pd) (C : LwC l p s m meth c b L xs) (hL : L ≤ 2560) (hi : i + 4 < L) (hK : va_K D vwCl (TYL cZ cD cI cJ) s) (hP : va_P D vwCl (WA h0 hn hd hq k0 kv ko ks km kt kp kb qo qd cZ cD cI cJ nb v ln go mw th mv io sz mk se pv pd go mw oL oD) H) (hD : va_D (fun q : Nat => s.heap.size ≤ q) (WA h0 hn hd hq k0 kv ko ks km kt kp kb qo qd cZ cD cI cJ nb v ln go mw th mv io sz mk se pv pd go mw oL oD)) (hS : va_S (fun q : Nat => s.heap.size ≤ q) s.heap H locs) (hl : lv_has ls 9 [(5, .int (nI i)), (4, .ref qd), (3, .ref qo), (2, .ref k0), (1, .ref h0), (0, .ref b)]) (hcc : cells + 6 ≤ 3101) (hss : slots + 40 ≤ 21269) (N : LwN p l e s m below meth c b Q D h0 hn hd hq k0 kv ko ks km kt kp kb qo qd cZ cD cI cJ i (cells + 6) (slots + 40)) : W p l e room_1 s m #[Value.ref b] below meth c H locs cells slots Q (F0 m 144 ls []) := by
  have C0 := C
  obtain ⟨hx, hb, hr, hml, hown, hts, hX, hbl, hlocks, hl0, hZ, hxS, hxD, hxN⟩ := C0
  have hbA : ¬ (fun q : Nat => s.heap.size ≤ q) b := Nat.not_le.mpr hbl
  have hcm : room_1.cells = 3101 := rfl
  have hsm : room_1.slots = 21269 := rfl
  have hc_101 := hts (.constantDouble RL 101 4593671619917905920) (by decide +kernel)
  refine lv_aload_n hx hb dL_law_144 rfl (lv_at hl 4 rfl) ?_
  refine lv_aload_n hx hb dL_law_145 rfl (lv_at hl 5 rfl) ?_
  refine lv_iload hx hb dL_law_146 (lv_at hl 0 rfl) ?_
  refine lv_iconst (v := nI 1) hx hb dL_law_148 (by decide) ?_
  refine kn_iadd hx hb dL_law_149 ?_
  refine va_sld hx hb hX hbl hbA hS (sc_in (by omega) hL) dL_law_150 ?_
  refine kt_i (y := nI g) h1 ?_
  refine lv_aload_n hx hb dL_law_151 rfl (lv_at hl 5 rfl) ?_
  refine lv_iload hx hb dL_law_152 (lv_at hl 0 rfl) ?_
  refine lv_iconst (v := nI 2) hx hb dL_law_154 (by decide) ?_
  refine kn_iadd hx hb dL_law_155 ?_
  refine va_sld hx hb hX hbl hbA hS (sc_in (by omega) hL) dL_law_156 ?_
  refine kt_i (y := x2) h2 ?_
  refine lv_i2d hx hb dL_law_157 ?_
  refine lv_ldc2d hx hb hown hc_101 dL_law_158 ?_
  refine lv_dmul hx hb dL_law_161 (n64_of (mul_num _)) ?_
  refine lv_aload_n hx hb dL_law_162 rfl (lv_at hl 2 rfl) ?_
  refine lw_wrapL (As := [.ref h0, .int (nI g), .double (FP.dmul (FP.i2d x2) 4593671619917905920), .ref qo]) C hP hD hS hK hl.1 (w_level_full l D h0 hn hd hq qo cZ cD cI cJ nb v ln go mw oL R.1 hl0 H.size g (FP.dmul (FP.i2d x2) 4593671619917905920) hg hlv hfull) (vx_cwSW 4 hts gL_law_L_level rfl rfl rfl (by decide +kernel) ⟨Nat.le_of_ble_eq_true rfl, Nat.le_of_ble_eq_true rfl⟩) rfl dL_law_163 (by omega) (by omega) (fun H locs hP hD hS => ?_)
  refine lv_istore (lv' := [(6, .int (nI 2)), (5, .int (nI i)), (4, .ref qd), (3, .ref qo), (2, .ref k0), (1, .ref h0), (0, .ref b)]) hx hb dL_law_166 hl (by decide) rfl (fun ls hl => ?_)
  refine lv_aload_n hx hb dL_law_168 rfl (lv_at hl 4 rfl) ?_
  refine lv_aload_n hx hb dL_law_169 rfl (lv_at hl 6 rfl) ?_
  refine lv_iload hx hb dL_law_170 (lv_at hl 1 rfl) ?_
  refine lv_iconst (v := nI 1) hx hb dL_law_172 (by decide) ?_
  refine kn_iadd hx hb dL_law_173 ?_
  refine va_sld hx hb hX hbl hbA hS (sc_in (by omega) hL) dL_law_174 ?_
  refine kt_i (y := nI g) h1 ?_
  refine lv_aload_n hx hb dL_law_175 rfl (lv_at hl 6 rfl) ?_
  refine lv_iload hx hb dL_law_176 (lv_at hl 1 rfl) ?_
  refine lv_iconst (v := nI 2) hx hb dL_law_178 (by decide) ?_
  refine kn_iadd hx hb dL_law_179 ?_
  refine va_sld hx hb hX hbl hbA hS (sc_in (by omega) hL) dL_law_180 ?_
  refine kt_i (y := x2) h2 ?_
  refine lv_i2d hx hb dL_law_181 ?_
  refine lv_ldc2d hx hb hown hc_101 dL_law_182 ?_
  refine lv_dmul hx hb dL_law_185 (n64_of (mul_num _)) ?_
  refine lw_modi (As := [.int (nI g), .double (FP.dmul (FP.i2d x2) 4593671619917905920)]) C hP hD hS hK hl.1 (c_X1_level_full l D k0 kv ko ks km kt kp kb cZ cD cI th mv io sz mk se pv pd go mw R.2.1 H.size g (FP.dmul (FP.i2d x2) 4593671619917905920) hg hlv (by rw [R.size0 hg]; exact hfull)) (cwV 2 hts gL_law_X1_level rfl rfl rfl (by decide +kernel) ⟨Nat.le_of_ble_eq_true rfl, Nat.le_of_ble_eq_true rfl⟩) rfl dL_law_186 (by omega) (by omega) (fun H locs hP hD hS => ?_)
  refine lv_istore (lv' := [(7, .int (nI 0)), (6, .int (nI 2)), (5, .int (nI i)), (4, .ref qd), (3, .ref qo), (2, .ref k0), (1, .ref h0), (0, .ref b)]) hx hb dL_law_189 hl (by decide) rfl (fun ls hl => ?_)
  refine lv_aload_n hx hb dL_law_191 rfl (lv_at hl 5 rfl) ?_
  refine lw_thrown (R).2.1 C hP hK hl.1 dL_law_192 (by omega) (by omega) ?_
  refine kt_i (y := nI 2) (rfl) ?_
  refine lv_iload hx hb dL_law_195 (lv_at hl 1 rfl) ?_
  refine kn_icmp_eq (tgt := 202) hx hb (by decide) (by decide) dL_law_197 (by decide) (fun _ => ?_) (fun h => absurd h (by decide))
  refine lv_iload hx hb dL_law_202 (lv_at hl 1 rfl) ?_
  refine kn_ne (tgt := 219) hx hb (by decide) dL_law_204 (by decide) (fun _ => ?_) (fun h => absurd h (by decide))
  refine lv_goto (tgt := 1745) hx hb dL_law_219 (by decide) ?_
  refine W.widen (k := cells + 6) (n := slots + 40) (by omega) (by omega) ?_
  exact N R hP hD hS (lv_sub hl [2, 3, 4, 5, 6, 7] rfl)
set_option maxHeartbeats 4000000 in
set_option maxRecDepth 100000 in
theorem cs_level_bad {x1 x2 : Int32} (hbad : ¬ (InN 6 x1 ∧ lvl (FP.dmul (FP.i2d x2) 4593671619917905920) = true)) (h1 : xs (nI (i + 1)).toNatClampNeg = x1) (h2 : xs (nI (i + 2)).toNatClampNeg = x2) (R : Rl nb v ln io mv sz mk se pv pd) (C : LwC l p s m meth c b L xs) (hL : L ≤ 2560) (hi : i + 4 < L) (hK : va_K D vwCl (TYL cZ cD cI cJ) s) (hP : va_P D vwCl (WA h0 hn hd hq k0 kv ko ks km kt kp kb qo qd cZ cD cI cJ nb v ln go mw th mv io sz mk se pv pd go mw oL oD) H) (hD : va_D (fun q : Nat => s.heap.size ≤ q) (WA h0 hn hd hq k0 kv ko ks km kt kp kb qo qd cZ cD cI cJ nb v ln go mw th mv io sz mk se pv pd go mw oL oD)) (hS : va_S (fun q : Nat => s.heap.size ≤ q) s.heap H locs) (hl : lv_has ls 9 [(5, .int (nI i)), (4, .ref qd), (3, .ref qo), (2, .ref k0), (1, .ref h0), (0, .ref b)]) (hcc : cells + 6 ≤ 3101) (hss : slots + 40 ≤ 21269) (N : LwN p l e s m below meth c b Q D h0 hn hd hq k0 kv ko ks km kt kp kb qo qd cZ cD cI cJ i (cells + 6) (slots + 40)) : W p l e room_1 s m #[Value.ref b] below meth c H locs cells slots Q (F0 m 144 ls []) := by
  have C0 := C
  obtain ⟨hx, hb, hr, hml, hown, hts, hX, hbl, hlocks, hl0, hZ, hxS, hxD, hxN⟩ := C0
  have hbA : ¬ (fun q : Nat => s.heap.size ≤ q) b := Nat.not_le.mpr hbl
  have hcm : room_1.cells = 3101 := rfl
  have hsm : room_1.slots = 21269 := rfl
  have hc_101 := hts (.constantDouble RL 101 4593671619917905920) (by decide +kernel)
  refine lv_aload_n hx hb dL_law_144 rfl (lv_at hl 4 rfl) ?_
  refine lv_aload_n hx hb dL_law_145 rfl (lv_at hl 5 rfl) ?_
  refine lv_iload hx hb dL_law_146 (lv_at hl 0 rfl) ?_
  refine lv_iconst (v := nI 1) hx hb dL_law_148 (by decide) ?_
  refine kn_iadd hx hb dL_law_149 ?_
  refine va_sld hx hb hX hbl hbA hS (sc_in (by omega) hL) dL_law_150 ?_
  refine kt_i (y := x1) h1 ?_
  refine lv_aload_n hx hb dL_law_151 rfl (lv_at hl 5 rfl) ?_
  refine lv_iload hx hb dL_law_152 (lv_at hl 0 rfl) ?_
  refine lv_iconst (v := nI 2) hx hb dL_law_154 (by decide) ?_
  refine kn_iadd hx hb dL_law_155 ?_
  refine va_sld hx hb hX hbl hbA hS (sc_in (by omega) hL) dL_law_156 ?_
  refine kt_i (y := x2) h2 ?_
  refine lv_i2d hx hb dL_law_157 ?_
  refine lv_ldc2d hx hb hown hc_101 dL_law_158 ?_
  refine lv_dmul hx hb dL_law_161 (n64_of (mul_num _)) ?_
  refine lv_aload_n hx hb dL_law_162 rfl (lv_at hl 2 rfl) ?_
  refine lw_wrapL (As := [.ref h0, .int x1, .double (FP.dmul (FP.i2d x2) 4593671619917905920), .ref qo]) C hP hD hS hK hl.1 (w_level_bad l D h0 hn hd hq qo cZ cD cI cJ nb v ln go mw oL R.1 hl0 H.size x1 (FP.dmul (FP.i2d x2) 4593671619917905920) hbad) (vx_cwSW 4 hts gL_law_L_level rfl rfl rfl (by decide +kernel) ⟨Nat.le_of_ble_eq_true rfl, Nat.le_of_ble_eq_true rfl⟩) rfl dL_law_163 (by omega) (by omega) (fun H locs hP hD hS => ?_)
  refine lv_istore (lv' := [(6, .int (nI 1)), (5, .int (nI i)), (4, .ref qd), (3, .ref qo), (2, .ref k0), (1, .ref h0), (0, .ref b)]) hx hb dL_law_166 hl (by decide) rfl (fun ls hl => ?_)
  refine lv_aload_n hx hb dL_law_168 rfl (lv_at hl 4 rfl) ?_
  refine lv_aload_n hx hb dL_law_169 rfl (lv_at hl 6 rfl) ?_
  refine lv_iload hx hb dL_law_170 (lv_at hl 1 rfl) ?_
  refine lv_iconst (v := nI 1) hx hb dL_law_172 (by decide) ?_
  refine kn_iadd hx hb dL_law_173 ?_
  refine va_sld hx hb hX hbl hbA hS (sc_in (by omega) hL) dL_law_174 ?_
  refine kt_i (y := x1) h1 ?_
  refine lv_aload_n hx hb dL_law_175 rfl (lv_at hl 6 rfl) ?_
  refine lv_iload hx hb dL_law_176 (lv_at hl 1 rfl) ?_
  refine lv_iconst (v := nI 2) hx hb dL_law_178 (by decide) ?_
  refine kn_iadd hx hb dL_law_179 ?_
  refine va_sld hx hb hX hbl hbA hS (sc_in (by omega) hL) dL_law_180 ?_
  refine kt_i (y := x2) h2 ?_
  refine lv_i2d hx hb dL_law_181 ?_
  refine lv_ldc2d hx hb hown hc_101 dL_law_182 ?_
  refine lv_dmul hx hb dL_law_185 (n64_of (mul_num _)) ?_
  refine lw_modi (As := [.int x1, .double (FP.dmul (FP.i2d x2) 4593671619917905920)]) C hP hD hS hK hl.1 (c_X1_level_bad l D k0 kv ko ks km kt kp kb cZ cD cI th mv io sz mk se pv pd go mw R.2.1 H.size x1 (FP.dmul (FP.i2d x2) 4593671619917905920) hbad) (cwV 2 hts gL_law_X1_level rfl rfl rfl (by decide +kernel) ⟨Nat.le_of_ble_eq_true rfl, Nat.le_of_ble_eq_true rfl⟩) rfl dL_law_186 (by omega) (by omega) (fun H locs hP hD hS => ?_)
  refine lv_istore (lv' := [(7, .int (nI 0)), (6, .int (nI 1)), (5, .int (nI i)), (4, .ref qd), (3, .ref qo), (2, .ref k0), (1, .ref h0), (0, .ref b)]) hx hb dL_law_189 hl (by decide) rfl (fun ls hl => ?_)
  refine lv_aload_n hx hb dL_law_191 rfl (lv_at hl 5 rfl) ?_
  refine lw_thrown (R).2.1 C hP hK hl.1 dL_law_192 (by omega) (by omega) ?_
  refine kt_i (y := nI 1) (rfl) ?_
  refine lv_iload hx hb dL_law_195 (lv_at hl 1 rfl) ?_
  refine kn_icmp_eq (tgt := 202) hx hb (by decide) (by decide) dL_law_197 (by decide) (fun _ => ?_) (fun h => absurd h (by decide))
  refine lv_iload hx hb dL_law_202 (lv_at hl 1 rfl) ?_
  refine kn_ne (tgt := 219) hx hb (by decide) dL_law_204 (by decide) (fun _ => ?_) (fun h => absurd h (by decide))
  refine lv_goto (tgt := 1745) hx hb dL_law_219 (by decide) ?_
  refine W.widen (k := cells + 6) (n := slots + 40) (by omega) (by omega) ?_
  exact N R hP hD hS (lv_sub hl [2, 3, 4, 5, 6, 7] rfl)
set_option maxHeartbeats 4000000 in
set_option maxRecDepth 100000 in
theorem cs_wind {g : Nat} (hg : g < 6) {x2 : Int32} (hlv : wnd (FP.fmul (FP.i2f x2) 1040187392) = true) (hrm : ln (g * 2 + 1) < 12) (h1 : xs (nI (i + 1)).toNatClampNeg = nI g) (h2 : xs (nI (i + 2)).toNatClampNeg = x2) (R : Rl nb v ln io mv sz mk se pv pd) (C : LwC l p s m meth c b L xs) (hL : L ≤ 2560) (hi : i + 4 < L) (hK : va_K D vwCl (TYL cZ cD cI cJ) s) (hP : va_P D vwCl (WA h0 hn hd hq k0 kv ko ks km kt kp kb qo qd cZ cD cI cJ nb v ln go mw th mv io sz mk se pv pd go mw oL oD) H) (hD : va_D (fun q : Nat => s.heap.size ≤ q) (WA h0 hn hd hq k0 kv ko ks km kt kp kb qo qd cZ cD cI cJ nb v ln go mw th mv io sz mk se pv pd go mw oL oD)) (hS : va_S (fun q : Nat => s.heap.size ≤ q) s.heap H locs) (hl : lv_has ls 9 [(5, .int (nI i)), (4, .ref qd), (3, .ref qo), (2, .ref k0), (1, .ref h0), (0, .ref b)]) (hcc : cells + 6 ≤ 3101) (hss : slots + 40 ≤ 21269) (N : LwN p l e s m below meth c b Q D h0 hn hd hq k0 kv ko ks km kt kp kb qo qd cZ cD cI cJ i (cells + 6) (slots + 40)) : W p l e room_1 s m #[Value.ref b] below meth c H locs cells slots Q (F0 m 222 ls []) := by
  have C0 := C
  obtain ⟨hx, hb, hr, hml, hown, hts, hX, hbl, hlocks, hl0, hZ, hxS, hxD, hxN⟩ := C0
  have hbA : ¬ (fun q : Nat => s.heap.size ≤ q) b := Nat.not_le.mpr hbl
  have hcm : room_1.cells = 3101 := rfl
  have hsm : room_1.slots = 21269 := rfl
  have hu : num (FP.f2d (FP.fmul (FP.i2f x2) 1040187392)) := (by show FP.dIsNaN _ = false; rw [FP.f2d_nan]; exact mul_num32 _)
  have hc_113 := hts (.constantFloat RL 113 1040187392) (by decide +kernel)
  refine lv_aload_n hx hb dL_law_222 rfl (lv_at hl 4 rfl) ?_
  refine lv_aload_n hx hb dL_law_223 rfl (lv_at hl 5 rfl) ?_
  refine lv_iload hx hb dL_law_224 (lv_at hl 0 rfl) ?_
  refine lv_iconst (v := nI 1) hx hb dL_law_226 (by decide) ?_
  refine kn_iadd hx hb dL_law_227 ?_
  refine va_sld hx hb hX hbl hbA hS (sc_in (by omega) hL) dL_law_228 ?_
  refine kt_i (y := nI g) h1 ?_
  refine lv_aload_n hx hb dL_law_229 rfl (lv_at hl 5 rfl) ?_
  refine lv_iload hx hb dL_law_230 (lv_at hl 0 rfl) ?_
  refine lv_iconst (v := nI 2) hx hb dL_law_232 (by decide) ?_
  refine kn_iadd hx hb dL_law_233 ?_
  refine va_sld hx hb hX hbl hbA hS (sc_in (by omega) hL) dL_law_234 ?_
  refine kt_i (y := x2) h2 ?_
  refine lv_i2f hx hb dL_law_235 ?_
  refine lv_ldcf hx hb hown hc_113 dL_law_236 ?_
  refine lv_fmul hx hb dL_law_238 (n32_of (mul_num32 _)) ?_
  refine lv_aload_n hx hb dL_law_239 rfl (lv_at hl 2 rfl) ?_
  refine lw_wrapL (As := [.ref h0, .int (nI g), .float (FP.fmul (FP.i2f x2) 1040187392), .ref qo]) C hP hD hS hK hl.1 (w_wind l D h0 hn hd hq qo cZ cD cI cJ nb v ln go mw oL R.1 hl0 H.size g (FP.fmul (FP.i2f x2) 1040187392) hg hlv hrm) (vx_cwSW 4 hts gL_law_L_wind rfl rfl rfl (by decide +kernel) ⟨Nat.le_of_ble_eq_true rfl, Nat.le_of_ble_eq_true rfl⟩) rfl dL_law_240 (by omega) (by omega) (fun H locs hP hD hS => ?_)
  refine lv_istore (lv' := [(6, .int (nI 0)), (5, .int (nI i)), (4, .ref qd), (3, .ref qo), (2, .ref k0), (1, .ref h0), (0, .ref b)]) hx hb dL_law_243 hl (by decide) rfl (fun ls hl => ?_)
  refine lv_aload_n hx hb dL_law_245 rfl (lv_at hl 4 rfl) ?_
  refine lv_aload_n hx hb dL_law_246 rfl (lv_at hl 6 rfl) ?_
  refine lv_iload hx hb dL_law_247 (lv_at hl 1 rfl) ?_
  refine lv_iconst (v := nI 1) hx hb dL_law_249 (by decide) ?_
  refine kn_iadd hx hb dL_law_250 ?_
  refine va_sld hx hb hX hbl hbA hS (sc_in (by omega) hL) dL_law_251 ?_
  refine kt_i (y := nI g) h1 ?_
  refine lv_aload_n hx hb dL_law_252 rfl (lv_at hl 6 rfl) ?_
  refine lv_iload hx hb dL_law_253 (lv_at hl 1 rfl) ?_
  refine lv_iconst (v := nI 2) hx hb dL_law_255 (by decide) ?_
  refine kn_iadd hx hb dL_law_256 ?_
  refine va_sld hx hb hX hbl hbA hS (sc_in (by omega) hL) dL_law_257 ?_
  refine kt_i (y := x2) h2 ?_
  refine lv_i2f hx hb dL_law_258 ?_
  refine lv_ldcf hx hb hown hc_113 dL_law_259 ?_
  refine lv_fmul hx hb dL_law_261 (n32_of (mul_num32 _)) ?_
  refine lw_modi (As := [.int (nI g), .float (FP.fmul (FP.i2f x2) 1040187392)]) C hP hD hS hK hl.1 (c_X1_wind l D k0 kv ko ks km kt kp kb cZ cD cI th mv io sz mk se pv pd go mw R.2.1 H.size g (FP.fmul (FP.i2f x2) 1040187392) hg (n64_of (by rw [FP.f2d_nan]; exact mul_num32 _)) (by rw [wnd_wnM (mul_num32 _)]; exact hlv) (by rw [R.size2 hg (by omega)]; exact hrm)) (cwV 2 hts gL_law_X1_wind rfl rfl rfl (by decide +kernel) ⟨Nat.le_of_ble_eq_true rfl, Nat.le_of_ble_eq_true rfl⟩) rfl dL_law_262 (by omega) (by omega) (fun H locs hP hD hS => ?_)
  refine lv_istore (lv' := [(7, .int (nI (sz (2 * g + 1) + 1))), (6, .int (nI 0)), (5, .int (nI i)), (4, .ref qd), (3, .ref qo), (2, .ref k0), (1, .ref h0), (0, .ref b)]) hx hb dL_law_265 hl (by decide) rfl (fun ls hl => ?_)
  refine lv_aload_n hx hb dL_law_267 rfl (lv_at hl 5 rfl) ?_
  refine lw_thrown (R.app_t (w := 1) hg (by omega) hrm hu).2.1 C hP hK hl.1 dL_law_268 (by omega) (by omega) ?_
  refine kt_i (y := nI 0) (rfl) ?_
  refine lv_iload hx hb dL_law_271 (lv_at hl 1 rfl) ?_
  refine kn_icmp_eq (tgt := 278) hx hb (by decide) (by decide) dL_law_273 (by decide) (fun _ => ?_) (fun h => absurd h (by decide))
  refine lv_iload hx hb dL_law_278 (lv_at hl 1 rfl) ?_
  refine kn_ne (tgt := 295) hx hb (by decide) dL_law_280 (by decide) (fun h => absurd h (by decide)) (fun _ => ?_)
  refine lv_aload_n hx hb dL_law_283 rfl (lv_at hl 4 rfl) ?_
  refine lv_iconst (v := nI 0) hx hb dL_law_284 (by decide) ?_
  refine kn_lald hx hb hK hP 12 3 rfl rfl (by decide) (by decide) dL_law_285 ?_
  refine lv_iload hx hb dL_law_286 (lv_at hl 0 rfl) ?_
  refine lv_i2l hx hb dL_law_288 rfl ?_
  refine W.lcmp hx hb dL_law_289 ?_
  refine lv_if_eq (tgt := 295) hx hb dL_law_290 (by decide) (fun c_x => ?_) (fun h => absurd (lc_eq (by rw [up_s]; exact congrArg Int32.toInt64 (by rw [R.size2 hg (by omega)]))) h)
  refine lv_goto (tgt := 1745) hx hb dL_law_295 (by decide) ?_
  refine W.widen (k := cells + 6) (n := slots + 40) (by omega) (by omega) ?_
  exact N (R.app_t (w := 1) hg (by omega) hrm hu) hP hD hS (lv_sub hl [2, 3, 4, 5, 6, 7] rfl)
set_option maxHeartbeats 4000000 in
set_option maxRecDepth 100000 in
theorem cs_wind_full {g : Nat} (hg : g < 6) {x2 : Int32} (hlv : wnd (FP.fmul (FP.i2f x2) 1040187392) = true) (hfull : ln (g * 2 + 1) = 12) (h1 : xs (nI (i + 1)).toNatClampNeg = nI g) (h2 : xs (nI (i + 2)).toNatClampNeg = x2) (R : Rl nb v ln io mv sz mk se pv pd) (C : LwC l p s m meth c b L xs) (hL : L ≤ 2560) (hi : i + 4 < L) (hK : va_K D vwCl (TYL cZ cD cI cJ) s) (hP : va_P D vwCl (WA h0 hn hd hq k0 kv ko ks km kt kp kb qo qd cZ cD cI cJ nb v ln go mw th mv io sz mk se pv pd go mw oL oD) H) (hD : va_D (fun q : Nat => s.heap.size ≤ q) (WA h0 hn hd hq k0 kv ko ks km kt kp kb qo qd cZ cD cI cJ nb v ln go mw th mv io sz mk se pv pd go mw oL oD)) (hS : va_S (fun q : Nat => s.heap.size ≤ q) s.heap H locs) (hl : lv_has ls 9 [(5, .int (nI i)), (4, .ref qd), (3, .ref qo), (2, .ref k0), (1, .ref h0), (0, .ref b)]) (hcc : cells + 6 ≤ 3101) (hss : slots + 40 ≤ 21269) (N : LwN p l e s m below meth c b Q D h0 hn hd hq k0 kv ko ks km kt kp kb qo qd cZ cD cI cJ i (cells + 6) (slots + 40)) : W p l e room_1 s m #[Value.ref b] below meth c H locs cells slots Q (F0 m 222 ls []) := by
  have C0 := C
  obtain ⟨hx, hb, hr, hml, hown, hts, hX, hbl, hlocks, hl0, hZ, hxS, hxD, hxN⟩ := C0
  have hbA : ¬ (fun q : Nat => s.heap.size ≤ q) b := Nat.not_le.mpr hbl
  have hcm : room_1.cells = 3101 := rfl
  have hsm : room_1.slots = 21269 := rfl
  have hc_113 := hts (.constantFloat RL 113 1040187392) (by decide +kernel)
  refine lv_aload_n hx hb dL_law_222 rfl (lv_at hl 4 rfl) ?_
  refine lv_aload_n hx hb dL_law_223 rfl (lv_at hl 5 rfl) ?_
  refine lv_iload hx hb dL_law_224 (lv_at hl 0 rfl) ?_
  refine lv_iconst (v := nI 1) hx hb dL_law_226 (by decide) ?_
  refine kn_iadd hx hb dL_law_227 ?_
  refine va_sld hx hb hX hbl hbA hS (sc_in (by omega) hL) dL_law_228 ?_
  refine kt_i (y := nI g) h1 ?_
  refine lv_aload_n hx hb dL_law_229 rfl (lv_at hl 5 rfl) ?_
  refine lv_iload hx hb dL_law_230 (lv_at hl 0 rfl) ?_
  refine lv_iconst (v := nI 2) hx hb dL_law_232 (by decide) ?_
  refine kn_iadd hx hb dL_law_233 ?_
  refine va_sld hx hb hX hbl hbA hS (sc_in (by omega) hL) dL_law_234 ?_
  refine kt_i (y := x2) h2 ?_
  refine lv_i2f hx hb dL_law_235 ?_
  refine lv_ldcf hx hb hown hc_113 dL_law_236 ?_
  refine lv_fmul hx hb dL_law_238 (n32_of (mul_num32 _)) ?_
  refine lv_aload_n hx hb dL_law_239 rfl (lv_at hl 2 rfl) ?_
  refine lw_wrapL (As := [.ref h0, .int (nI g), .float (FP.fmul (FP.i2f x2) 1040187392), .ref qo]) C hP hD hS hK hl.1 (w_wind_full l D h0 hn hd hq qo cZ cD cI cJ nb v ln go mw oL R.1 hl0 H.size g (FP.fmul (FP.i2f x2) 1040187392) hg hlv hfull) (vx_cwSW 4 hts gL_law_L_wind rfl rfl rfl (by decide +kernel) ⟨Nat.le_of_ble_eq_true rfl, Nat.le_of_ble_eq_true rfl⟩) rfl dL_law_240 (by omega) (by omega) (fun H locs hP hD hS => ?_)
  refine lv_istore (lv' := [(6, .int (nI 2)), (5, .int (nI i)), (4, .ref qd), (3, .ref qo), (2, .ref k0), (1, .ref h0), (0, .ref b)]) hx hb dL_law_243 hl (by decide) rfl (fun ls hl => ?_)
  refine lv_aload_n hx hb dL_law_245 rfl (lv_at hl 4 rfl) ?_
  refine lv_aload_n hx hb dL_law_246 rfl (lv_at hl 6 rfl) ?_
  refine lv_iload hx hb dL_law_247 (lv_at hl 1 rfl) ?_
  refine lv_iconst (v := nI 1) hx hb dL_law_249 (by decide) ?_
  refine kn_iadd hx hb dL_law_250 ?_
  refine va_sld hx hb hX hbl hbA hS (sc_in (by omega) hL) dL_law_251 ?_
  refine kt_i (y := nI g) h1 ?_
  refine lv_aload_n hx hb dL_law_252 rfl (lv_at hl 6 rfl) ?_
  refine lv_iload hx hb dL_law_253 (lv_at hl 1 rfl) ?_
  refine lv_iconst (v := nI 2) hx hb dL_law_255 (by decide) ?_
  refine kn_iadd hx hb dL_law_256 ?_
  refine va_sld hx hb hX hbl hbA hS (sc_in (by omega) hL) dL_law_257 ?_
  refine kt_i (y := x2) h2 ?_
  refine lv_i2f hx hb dL_law_258 ?_
  refine lv_ldcf hx hb hown hc_113 dL_law_259 ?_
  refine lv_fmul hx hb dL_law_261 (n32_of (mul_num32 _)) ?_
  refine lw_modi (As := [.int (nI g), .float (FP.fmul (FP.i2f x2) 1040187392)]) C hP hD hS hK hl.1 (c_X1_wind_full l D k0 kv ko ks km kt kp kb cZ cD cI th mv io sz mk se pv pd go mw R.2.1 H.size g (FP.fmul (FP.i2f x2) 1040187392) hg (n64_of (by rw [FP.f2d_nan]; exact mul_num32 _)) (by rw [wnd_wnM (mul_num32 _)]; exact hlv) (by rw [R.size2 hg (by omega)]; exact hfull)) (cwV 2 hts gL_law_X1_wind rfl rfl rfl (by decide +kernel) ⟨Nat.le_of_ble_eq_true rfl, Nat.le_of_ble_eq_true rfl⟩) rfl dL_law_262 (by omega) (by omega) (fun H locs hP hD hS => ?_)
  refine lv_istore (lv' := [(7, .int (nI 0)), (6, .int (nI 2)), (5, .int (nI i)), (4, .ref qd), (3, .ref qo), (2, .ref k0), (1, .ref h0), (0, .ref b)]) hx hb dL_law_265 hl (by decide) rfl (fun ls hl => ?_)
  refine lv_aload_n hx hb dL_law_267 rfl (lv_at hl 5 rfl) ?_
  refine lw_thrown (R).2.1 C hP hK hl.1 dL_law_268 (by omega) (by omega) ?_
  refine kt_i (y := nI 2) (rfl) ?_
  refine lv_iload hx hb dL_law_271 (lv_at hl 1 rfl) ?_
  refine kn_icmp_eq (tgt := 278) hx hb (by decide) (by decide) dL_law_273 (by decide) (fun _ => ?_) (fun h => absurd h (by decide))
  refine lv_iload hx hb dL_law_278 (lv_at hl 1 rfl) ?_
  refine kn_ne (tgt := 295) hx hb (by decide) dL_law_280 (by decide) (fun _ => ?_) (fun h => absurd h (by decide))
  refine lv_goto (tgt := 1745) hx hb dL_law_295 (by decide) ?_
  refine W.widen (k := cells + 6) (n := slots + 40) (by omega) (by omega) ?_
  exact N R hP hD hS (lv_sub hl [2, 3, 4, 5, 6, 7] rfl)
set_option maxHeartbeats 4000000 in
set_option maxRecDepth 100000 in
theorem cs_wind_bad {x1 x2 : Int32} (hbad : ¬ (InN 6 x1 ∧ wnd (FP.fmul (FP.i2f x2) 1040187392) = true)) (h1 : xs (nI (i + 1)).toNatClampNeg = x1) (h2 : xs (nI (i + 2)).toNatClampNeg = x2) (R : Rl nb v ln io mv sz mk se pv pd) (C : LwC l p s m meth c b L xs) (hL : L ≤ 2560) (hi : i + 4 < L) (hK : va_K D vwCl (TYL cZ cD cI cJ) s) (hP : va_P D vwCl (WA h0 hn hd hq k0 kv ko ks km kt kp kb qo qd cZ cD cI cJ nb v ln go mw th mv io sz mk se pv pd go mw oL oD) H) (hD : va_D (fun q : Nat => s.heap.size ≤ q) (WA h0 hn hd hq k0 kv ko ks km kt kp kb qo qd cZ cD cI cJ nb v ln go mw th mv io sz mk se pv pd go mw oL oD)) (hS : va_S (fun q : Nat => s.heap.size ≤ q) s.heap H locs) (hl : lv_has ls 9 [(5, .int (nI i)), (4, .ref qd), (3, .ref qo), (2, .ref k0), (1, .ref h0), (0, .ref b)]) (hcc : cells + 6 ≤ 3101) (hss : slots + 40 ≤ 21269) (N : LwN p l e s m below meth c b Q D h0 hn hd hq k0 kv ko ks km kt kp kb qo qd cZ cD cI cJ i (cells + 6) (slots + 40)) : W p l e room_1 s m #[Value.ref b] below meth c H locs cells slots Q (F0 m 222 ls []) := by
  have C0 := C
  obtain ⟨hx, hb, hr, hml, hown, hts, hX, hbl, hlocks, hl0, hZ, hxS, hxD, hxN⟩ := C0
  have hbA : ¬ (fun q : Nat => s.heap.size ≤ q) b := Nat.not_le.mpr hbl
  have hcm : room_1.cells = 3101 := rfl
  have hsm : room_1.slots = 21269 := rfl
  have hc_113 := hts (.constantFloat RL 113 1040187392) (by decide +kernel)
  refine lv_aload_n hx hb dL_law_222 rfl (lv_at hl 4 rfl) ?_
  refine lv_aload_n hx hb dL_law_223 rfl (lv_at hl 5 rfl) ?_
  refine lv_iload hx hb dL_law_224 (lv_at hl 0 rfl) ?_
  refine lv_iconst (v := nI 1) hx hb dL_law_226 (by decide) ?_
  refine kn_iadd hx hb dL_law_227 ?_
  refine va_sld hx hb hX hbl hbA hS (sc_in (by omega) hL) dL_law_228 ?_
  refine kt_i (y := x1) h1 ?_
  refine lv_aload_n hx hb dL_law_229 rfl (lv_at hl 5 rfl) ?_
  refine lv_iload hx hb dL_law_230 (lv_at hl 0 rfl) ?_
  refine lv_iconst (v := nI 2) hx hb dL_law_232 (by decide) ?_
  refine kn_iadd hx hb dL_law_233 ?_
  refine va_sld hx hb hX hbl hbA hS (sc_in (by omega) hL) dL_law_234 ?_
  refine kt_i (y := x2) h2 ?_
  refine lv_i2f hx hb dL_law_235 ?_
  refine lv_ldcf hx hb hown hc_113 dL_law_236 ?_
  refine lv_fmul hx hb dL_law_238 (n32_of (mul_num32 _)) ?_
  refine lv_aload_n hx hb dL_law_239 rfl (lv_at hl 2 rfl) ?_
  refine lw_wrapL (As := [.ref h0, .int x1, .float (FP.fmul (FP.i2f x2) 1040187392), .ref qo]) C hP hD hS hK hl.1 (w_wind_bad l D h0 hn hd hq qo cZ cD cI cJ nb v ln go mw oL R.1 hl0 H.size x1 (FP.fmul (FP.i2f x2) 1040187392) hbad) (vx_cwSW 4 hts gL_law_L_wind rfl rfl rfl (by decide +kernel) ⟨Nat.le_of_ble_eq_true rfl, Nat.le_of_ble_eq_true rfl⟩) rfl dL_law_240 (by omega) (by omega) (fun H locs hP hD hS => ?_)
  refine lv_istore (lv' := [(6, .int (nI 1)), (5, .int (nI i)), (4, .ref qd), (3, .ref qo), (2, .ref k0), (1, .ref h0), (0, .ref b)]) hx hb dL_law_243 hl (by decide) rfl (fun ls hl => ?_)
  refine lv_aload_n hx hb dL_law_245 rfl (lv_at hl 4 rfl) ?_
  refine lv_aload_n hx hb dL_law_246 rfl (lv_at hl 6 rfl) ?_
  refine lv_iload hx hb dL_law_247 (lv_at hl 1 rfl) ?_
  refine lv_iconst (v := nI 1) hx hb dL_law_249 (by decide) ?_
  refine kn_iadd hx hb dL_law_250 ?_
  refine va_sld hx hb hX hbl hbA hS (sc_in (by omega) hL) dL_law_251 ?_
  refine kt_i (y := x1) h1 ?_
  refine lv_aload_n hx hb dL_law_252 rfl (lv_at hl 6 rfl) ?_
  refine lv_iload hx hb dL_law_253 (lv_at hl 1 rfl) ?_
  refine lv_iconst (v := nI 2) hx hb dL_law_255 (by decide) ?_
  refine kn_iadd hx hb dL_law_256 ?_
  refine va_sld hx hb hX hbl hbA hS (sc_in (by omega) hL) dL_law_257 ?_
  refine kt_i (y := x2) h2 ?_
  refine lv_i2f hx hb dL_law_258 ?_
  refine lv_ldcf hx hb hown hc_113 dL_law_259 ?_
  refine lv_fmul hx hb dL_law_261 (n32_of (mul_num32 _)) ?_
  refine lw_modi (As := [.int x1, .float (FP.fmul (FP.i2f x2) 1040187392)]) C hP hD hS hK hl.1 (c_X1_wind_bad l D k0 kv ko ks km kt kp kb cZ cD cI th mv io sz mk se pv pd go mw R.2.1 H.size x1 (FP.fmul (FP.i2f x2) 1040187392) (n64_of (by rw [FP.f2d_nan]; exact mul_num32 _)) (by rw [wnd_wnM (mul_num32 _)]; exact hbad)) (cwV 2 hts gL_law_X1_wind rfl rfl rfl (by decide +kernel) ⟨Nat.le_of_ble_eq_true rfl, Nat.le_of_ble_eq_true rfl⟩) rfl dL_law_262 (by omega) (by omega) (fun H locs hP hD hS => ?_)
  refine lv_istore (lv' := [(7, .int (nI 0)), (6, .int (nI 1)), (5, .int (nI i)), (4, .ref qd), (3, .ref qo), (2, .ref k0), (1, .ref h0), (0, .ref b)]) hx hb dL_law_265 hl (by decide) rfl (fun ls hl => ?_)
  refine lv_aload_n hx hb dL_law_267 rfl (lv_at hl 5 rfl) ?_
  refine lw_thrown (R).2.1 C hP hK hl.1 dL_law_268 (by omega) (by omega) ?_
  refine kt_i (y := nI 1) (rfl) ?_
  refine lv_iload hx hb dL_law_271 (lv_at hl 1 rfl) ?_
  refine kn_icmp_eq (tgt := 278) hx hb (by decide) (by decide) dL_law_273 (by decide) (fun _ => ?_) (fun h => absurd h (by decide))
  refine lv_iload hx hb dL_law_278 (lv_at hl 1 rfl) ?_
  refine kn_ne (tgt := 295) hx hb (by decide) dL_law_280 (by decide) (fun _ => ?_) (fun h => absurd h (by decide))
  refine lv_goto (tgt := 1745) hx hb dL_law_295 (by decide) ?_
  refine W.widen (k := cells + 6) (n := slots + 40) (by omega) (by omega) ?_
  exact N R hP hD hS (lv_sub hl [2, 3, 4, 5, 6, 7] rfl)
set_option maxHeartbeats 4000000 in
set_option maxRecDepth 100000 in
theorem cs_out {g : Nat} (hg : g < 6) {w : Nat} (hw : w < 2) (hrm : ln (g * 2 + w) < 12) (h1 : xs (nI (i + 1)).toNatClampNeg = nI g) (h2 : xs (nI (i + 2)).toNatClampNeg = nI w) (R : Rl nb v ln io mv sz mk se pv pd) (C : LwC l p s m meth c b L xs) (hL : L ≤ 2560) (hi : i + 4 < L) (hK : va_K D vwCl (TYL cZ cD cI cJ) s) (hP : va_P D vwCl (WA h0 hn hd hq k0 kv ko ks km kt kp kb qo qd cZ cD cI cJ nb v ln go mw th mv io sz mk se pv pd go mw oL oD) H) (hD : va_D (fun q : Nat => s.heap.size ≤ q) (WA h0 hn hd hq k0 kv ko ks km kt kp kb qo qd cZ cD cI cJ nb v ln go mw th mv io sz mk se pv pd go mw oL oD)) (hS : va_S (fun q : Nat => s.heap.size ≤ q) s.heap H locs) (hl : lv_has ls 9 [(5, .int (nI i)), (4, .ref qd), (3, .ref qo), (2, .ref k0), (1, .ref h0), (0, .ref b)]) (hcc : cells + 6 ≤ 3101) (hss : slots + 40 ≤ 21269) (N : LwN p l e s m below meth c b Q D h0 hn hd hq k0 kv ko ks km kt kp kb qo qd cZ cD cI cJ i (cells + 6) (slots + 40)) : W p l e room_1 s m #[Value.ref b] below meth c H locs cells slots Q (F0 m 298 ls []) := by
  have C0 := C
  obtain ⟨hx, hb, hr, hml, hown, hts, hX, hbl, hlocks, hl0, hZ, hxS, hxD, hxN⟩ := C0
  have hbA : ¬ (fun q : Nat => s.heap.size ≤ q) b := Nat.not_le.mpr hbl
  have hcm : room_1.cells = 3101 := rfl
  have hsm : room_1.slots = 21269 := rfl
  refine lv_aload_n hx hb dL_law_298 rfl (lv_at hl 4 rfl) ?_
  refine lv_aload_n hx hb dL_law_299 rfl (lv_at hl 5 rfl) ?_
  refine lv_iload hx hb dL_law_300 (lv_at hl 0 rfl) ?_
  refine lv_iconst (v := nI 1) hx hb dL_law_302 (by decide) ?_
  refine kn_iadd hx hb dL_law_303 ?_
  refine va_sld hx hb hX hbl hbA hS (sc_in (by omega) hL) dL_law_304 ?_
  refine kt_i (y := nI g) h1 ?_
  refine lv_aload_n hx hb dL_law_305 rfl (lv_at hl 5 rfl) ?_
  refine lv_iload hx hb dL_law_306 (lv_at hl 0 rfl) ?_
  refine lv_iconst (v := nI 2) hx hb dL_law_308 (by decide) ?_
  refine kn_iadd hx hb dL_law_309 ?_
  refine va_sld hx hb hX hbl hbA hS (sc_in (by omega) hL) dL_law_310 ?_
  refine kt_i (y := nI w) h2 ?_
  refine lv_aload_n hx hb dL_law_311 rfl (lv_at hl 2 rfl) ?_
  refine lw_wrapL (As := [.ref h0, .int (nI g), .int (nI w), .ref qo]) C hP hD hS hK hl.1 (w_out l D h0 hn hd hq qo cZ cD cI cJ nb v ln go mw oL R.1 hl0 H.size g w hg hw hrm) (vx_cwSW 4 hts gL_law_L_out rfl rfl rfl (by decide +kernel) ⟨Nat.le_of_ble_eq_true rfl, Nat.le_of_ble_eq_true rfl⟩) rfl dL_law_312 (by omega) (by omega) (fun H locs hP hD hS => ?_)
  refine lv_istore (lv' := [(6, .int (nI 0)), (5, .int (nI i)), (4, .ref qd), (3, .ref qo), (2, .ref k0), (1, .ref h0), (0, .ref b)]) hx hb dL_law_315 hl (by decide) rfl (fun ls hl => ?_)
  refine lv_aload_n hx hb dL_law_317 rfl (lv_at hl 4 rfl) ?_
  refine lv_aload_n hx hb dL_law_318 rfl (lv_at hl 6 rfl) ?_
  refine lv_iload hx hb dL_law_319 (lv_at hl 1 rfl) ?_
  refine lv_iconst (v := nI 1) hx hb dL_law_321 (by decide) ?_
  refine kn_iadd hx hb dL_law_322 ?_
  refine va_sld hx hb hX hbl hbA hS (sc_in (by omega) hL) dL_law_323 ?_
  refine kt_i (y := nI g) h1 ?_
  refine lv_aload_n hx hb dL_law_324 rfl (lv_at hl 6 rfl) ?_
  refine lv_iload hx hb dL_law_325 (lv_at hl 1 rfl) ?_
  refine lv_iconst (v := nI 2) hx hb dL_law_327 (by decide) ?_
  refine kn_iadd hx hb dL_law_328 ?_
  refine va_sld hx hb hX hbl hbA hS (sc_in (by omega) hL) dL_law_329 ?_
  refine kt_i (y := nI w) h2 ?_
  refine lw_modi (As := [.int (nI g), .int (nI w)]) C hP hD hS hK hl.1 (c_X1_out l D k0 kv ko ks km kt kp kb cZ cD cI th mv io sz mk se pv pd go mw R.2.1 H.size g w hg hw (by rw [R.size2 hg hw]; exact hrm)) (cwV 2 hts gL_law_X1_out rfl rfl rfl (by decide +kernel) ⟨Nat.le_of_ble_eq_true rfl, Nat.le_of_ble_eq_true rfl⟩) rfl dL_law_330 (by omega) (by omega) (fun H locs hP hD hS => ?_)
  refine lv_istore (lv' := [(7, .int (nI (sz (2 * g + w) + 1))), (6, .int (nI 0)), (5, .int (nI i)), (4, .ref qd), (3, .ref qo), (2, .ref k0), (1, .ref h0), (0, .ref b)]) hx hb dL_law_333 hl (by decide) rfl (fun ls hl => ?_)
  refine lv_aload_n hx hb dL_law_335 rfl (lv_at hl 5 rfl) ?_
  refine lw_thrown (R.app_o hg hw hrm FP.dconst0).2.1 C hP hK hl.1 dL_law_336 (by omega) (by omega) ?_
  refine kt_i (y := nI 0) (rfl) ?_
  refine lv_iload hx hb dL_law_339 (lv_at hl 1 rfl) ?_
  refine kn_icmp_eq (tgt := 346) hx hb (by decide) (by decide) dL_law_341 (by decide) (fun _ => ?_) (fun h => absurd h (by decide))
  refine lv_iload hx hb dL_law_346 (lv_at hl 1 rfl) ?_
  refine kn_ne (tgt := 363) hx hb (by decide) dL_law_348 (by decide) (fun h => absurd h (by decide)) (fun _ => ?_)
  refine lv_aload_n hx hb dL_law_351 rfl (lv_at hl 4 rfl) ?_
  refine lv_iconst (v := nI 0) hx hb dL_law_352 (by decide) ?_
  refine kn_lald hx hb hK hP 12 3 rfl rfl (by decide) (by decide) dL_law_353 ?_
  refine lv_iload hx hb dL_law_354 (lv_at hl 0 rfl) ?_
  refine lv_i2l hx hb dL_law_356 rfl ?_
  refine W.lcmp hx hb dL_law_357 ?_
  refine lv_if_eq (tgt := 363) hx hb dL_law_358 (by decide) (fun c_x => ?_) (fun h => absurd (lc_eq (by rw [up_s]; exact congrArg Int32.toInt64 (by rw [R.size2 hg hw]))) h)
  refine lv_goto (tgt := 1745) hx hb dL_law_363 (by decide) ?_
  refine W.widen (k := cells + 6) (n := slots + 40) (by omega) (by omega) ?_
  exact N (R.app_o hg hw hrm FP.dconst0) hP hD hS (lv_sub hl [2, 3, 4, 5, 6, 7] rfl)
set_option maxHeartbeats 4000000 in
set_option maxRecDepth 100000 in
theorem cs_out_full {g : Nat} (hg : g < 6) {w : Nat} (hw : w < 2) (hfull : ln (g * 2 + w) = 12) (h1 : xs (nI (i + 1)).toNatClampNeg = nI g) (h2 : xs (nI (i + 2)).toNatClampNeg = nI w) (R : Rl nb v ln io mv sz mk se pv pd) (C : LwC l p s m meth c b L xs) (hL : L ≤ 2560) (hi : i + 4 < L) (hK : va_K D vwCl (TYL cZ cD cI cJ) s) (hP : va_P D vwCl (WA h0 hn hd hq k0 kv ko ks km kt kp kb qo qd cZ cD cI cJ nb v ln go mw th mv io sz mk se pv pd go mw oL oD) H) (hD : va_D (fun q : Nat => s.heap.size ≤ q) (WA h0 hn hd hq k0 kv ko ks km kt kp kb qo qd cZ cD cI cJ nb v ln go mw th mv io sz mk se pv pd go mw oL oD)) (hS : va_S (fun q : Nat => s.heap.size ≤ q) s.heap H locs) (hl : lv_has ls 9 [(5, .int (nI i)), (4, .ref qd), (3, .ref qo), (2, .ref k0), (1, .ref h0), (0, .ref b)]) (hcc : cells + 6 ≤ 3101) (hss : slots + 40 ≤ 21269) (N : LwN p l e s m below meth c b Q D h0 hn hd hq k0 kv ko ks km kt kp kb qo qd cZ cD cI cJ i (cells + 6) (slots + 40)) : W p l e room_1 s m #[Value.ref b] below meth c H locs cells slots Q (F0 m 298 ls []) := by
  have C0 := C
  obtain ⟨hx, hb, hr, hml, hown, hts, hX, hbl, hlocks, hl0, hZ, hxS, hxD, hxN⟩ := C0
  have hbA : ¬ (fun q : Nat => s.heap.size ≤ q) b := Nat.not_le.mpr hbl
  have hcm : room_1.cells = 3101 := rfl
  have hsm : room_1.slots = 21269 := rfl
  refine lv_aload_n hx hb dL_law_298 rfl (lv_at hl 4 rfl) ?_
  refine lv_aload_n hx hb dL_law_299 rfl (lv_at hl 5 rfl) ?_
  refine lv_iload hx hb dL_law_300 (lv_at hl 0 rfl) ?_
  refine lv_iconst (v := nI 1) hx hb dL_law_302 (by decide) ?_
  refine kn_iadd hx hb dL_law_303 ?_
  refine va_sld hx hb hX hbl hbA hS (sc_in (by omega) hL) dL_law_304 ?_
  refine kt_i (y := nI g) h1 ?_
  refine lv_aload_n hx hb dL_law_305 rfl (lv_at hl 5 rfl) ?_
  refine lv_iload hx hb dL_law_306 (lv_at hl 0 rfl) ?_
  refine lv_iconst (v := nI 2) hx hb dL_law_308 (by decide) ?_
  refine kn_iadd hx hb dL_law_309 ?_
  refine va_sld hx hb hX hbl hbA hS (sc_in (by omega) hL) dL_law_310 ?_
  refine kt_i (y := nI w) h2 ?_
  refine lv_aload_n hx hb dL_law_311 rfl (lv_at hl 2 rfl) ?_
  refine lw_wrapL (As := [.ref h0, .int (nI g), .int (nI w), .ref qo]) C hP hD hS hK hl.1 (w_out_full l D h0 hn hd hq qo cZ cD cI cJ nb v ln go mw oL R.1 hl0 H.size g w hg hw hfull) (vx_cwSW 4 hts gL_law_L_out rfl rfl rfl (by decide +kernel) ⟨Nat.le_of_ble_eq_true rfl, Nat.le_of_ble_eq_true rfl⟩) rfl dL_law_312 (by omega) (by omega) (fun H locs hP hD hS => ?_)
  refine lv_istore (lv' := [(6, .int (nI 2)), (5, .int (nI i)), (4, .ref qd), (3, .ref qo), (2, .ref k0), (1, .ref h0), (0, .ref b)]) hx hb dL_law_315 hl (by decide) rfl (fun ls hl => ?_)
  refine lv_aload_n hx hb dL_law_317 rfl (lv_at hl 4 rfl) ?_
  refine lv_aload_n hx hb dL_law_318 rfl (lv_at hl 6 rfl) ?_
  refine lv_iload hx hb dL_law_319 (lv_at hl 1 rfl) ?_
  refine lv_iconst (v := nI 1) hx hb dL_law_321 (by decide) ?_
  refine kn_iadd hx hb dL_law_322 ?_
  refine va_sld hx hb hX hbl hbA hS (sc_in (by omega) hL) dL_law_323 ?_
  refine kt_i (y := nI g) h1 ?_
  refine lv_aload_n hx hb dL_law_324 rfl (lv_at hl 6 rfl) ?_
  refine lv_iload hx hb dL_law_325 (lv_at hl 1 rfl) ?_
  refine lv_iconst (v := nI 2) hx hb dL_law_327 (by decide) ?_
  refine kn_iadd hx hb dL_law_328 ?_
  refine va_sld hx hb hX hbl hbA hS (sc_in (by omega) hL) dL_law_329 ?_
  refine kt_i (y := nI w) h2 ?_
  refine lw_modi (As := [.int (nI g), .int (nI w)]) C hP hD hS hK hl.1 (c_X1_out_full l D k0 kv ko ks km kt kp kb cZ cD cI th mv io sz mk se pv pd go mw R.2.1 H.size g w hg hw (by rw [R.size2 hg hw]; exact hfull)) (cwV 2 hts gL_law_X1_out rfl rfl rfl (by decide +kernel) ⟨Nat.le_of_ble_eq_true rfl, Nat.le_of_ble_eq_true rfl⟩) rfl dL_law_330 (by omega) (by omega) (fun H locs hP hD hS => ?_)
  refine lv_istore (lv' := [(7, .int (nI 0)), (6, .int (nI 2)), (5, .int (nI i)), (4, .ref qd), (3, .ref qo), (2, .ref k0), (1, .ref h0), (0, .ref b)]) hx hb dL_law_333 hl (by decide) rfl (fun ls hl => ?_)
  refine lv_aload_n hx hb dL_law_335 rfl (lv_at hl 5 rfl) ?_
  refine lw_thrown (R).2.1 C hP hK hl.1 dL_law_336 (by omega) (by omega) ?_
  refine kt_i (y := nI 2) (rfl) ?_
  refine lv_iload hx hb dL_law_339 (lv_at hl 1 rfl) ?_
  refine kn_icmp_eq (tgt := 346) hx hb (by decide) (by decide) dL_law_341 (by decide) (fun _ => ?_) (fun h => absurd h (by decide))
  refine lv_iload hx hb dL_law_346 (lv_at hl 1 rfl) ?_
  refine kn_ne (tgt := 363) hx hb (by decide) dL_law_348 (by decide) (fun _ => ?_) (fun h => absurd h (by decide))
  refine lv_goto (tgt := 1745) hx hb dL_law_363 (by decide) ?_
  refine W.widen (k := cells + 6) (n := slots + 40) (by omega) (by omega) ?_
  exact N R hP hD hS (lv_sub hl [2, 3, 4, 5, 6, 7] rfl)
set_option maxHeartbeats 4000000 in
set_option maxRecDepth 100000 in
theorem cs_out_bad {x1 x2 : Int32} (hbad : ¬ (InN 6 x1 ∧ InN 2 x2)) (h1 : xs (nI (i + 1)).toNatClampNeg = x1) (h2 : xs (nI (i + 2)).toNatClampNeg = x2) (R : Rl nb v ln io mv sz mk se pv pd) (C : LwC l p s m meth c b L xs) (hL : L ≤ 2560) (hi : i + 4 < L) (hK : va_K D vwCl (TYL cZ cD cI cJ) s) (hP : va_P D vwCl (WA h0 hn hd hq k0 kv ko ks km kt kp kb qo qd cZ cD cI cJ nb v ln go mw th mv io sz mk se pv pd go mw oL oD) H) (hD : va_D (fun q : Nat => s.heap.size ≤ q) (WA h0 hn hd hq k0 kv ko ks km kt kp kb qo qd cZ cD cI cJ nb v ln go mw th mv io sz mk se pv pd go mw oL oD)) (hS : va_S (fun q : Nat => s.heap.size ≤ q) s.heap H locs) (hl : lv_has ls 9 [(5, .int (nI i)), (4, .ref qd), (3, .ref qo), (2, .ref k0), (1, .ref h0), (0, .ref b)]) (hcc : cells + 6 ≤ 3101) (hss : slots + 40 ≤ 21269) (N : LwN p l e s m below meth c b Q D h0 hn hd hq k0 kv ko ks km kt kp kb qo qd cZ cD cI cJ i (cells + 6) (slots + 40)) : W p l e room_1 s m #[Value.ref b] below meth c H locs cells slots Q (F0 m 298 ls []) := by
  have C0 := C
  obtain ⟨hx, hb, hr, hml, hown, hts, hX, hbl, hlocks, hl0, hZ, hxS, hxD, hxN⟩ := C0
  have hbA : ¬ (fun q : Nat => s.heap.size ≤ q) b := Nat.not_le.mpr hbl
  have hcm : room_1.cells = 3101 := rfl
  have hsm : room_1.slots = 21269 := rfl
  refine lv_aload_n hx hb dL_law_298 rfl (lv_at hl 4 rfl) ?_
  refine lv_aload_n hx hb dL_law_299 rfl (lv_at hl 5 rfl) ?_
  refine lv_iload hx hb dL_law_300 (lv_at hl 0 rfl) ?_
  refine lv_iconst (v := nI 1) hx hb dL_law_302 (by decide) ?_
  refine kn_iadd hx hb dL_law_303 ?_
  refine va_sld hx hb hX hbl hbA hS (sc_in (by omega) hL) dL_law_304 ?_
  refine kt_i (y := x1) h1 ?_
  refine lv_aload_n hx hb dL_law_305 rfl (lv_at hl 5 rfl) ?_
  refine lv_iload hx hb dL_law_306 (lv_at hl 0 rfl) ?_
  refine lv_iconst (v := nI 2) hx hb dL_law_308 (by decide) ?_
  refine kn_iadd hx hb dL_law_309 ?_
  refine va_sld hx hb hX hbl hbA hS (sc_in (by omega) hL) dL_law_310 ?_
  refine kt_i (y := x2) h2 ?_
  refine lv_aload_n hx hb dL_law_311 rfl (lv_at hl 2 rfl) ?_
  refine lw_wrapL (As := [.ref h0, .int x1, .int x2, .ref qo]) C hP hD hS hK hl.1 (w_out_bad l D h0 hn hd hq qo cZ cD cI cJ nb v ln go mw oL R.1 hl0 H.size x1 x2 hbad) (vx_cwSW 4 hts gL_law_L_out rfl rfl rfl (by decide +kernel) ⟨Nat.le_of_ble_eq_true rfl, Nat.le_of_ble_eq_true rfl⟩) rfl dL_law_312 (by omega) (by omega) (fun H locs hP hD hS => ?_)
  refine lv_istore (lv' := [(6, .int (nI 1)), (5, .int (nI i)), (4, .ref qd), (3, .ref qo), (2, .ref k0), (1, .ref h0), (0, .ref b)]) hx hb dL_law_315 hl (by decide) rfl (fun ls hl => ?_)
  refine lv_aload_n hx hb dL_law_317 rfl (lv_at hl 4 rfl) ?_
  refine lv_aload_n hx hb dL_law_318 rfl (lv_at hl 6 rfl) ?_
  refine lv_iload hx hb dL_law_319 (lv_at hl 1 rfl) ?_
  refine lv_iconst (v := nI 1) hx hb dL_law_321 (by decide) ?_
  refine kn_iadd hx hb dL_law_322 ?_
  refine va_sld hx hb hX hbl hbA hS (sc_in (by omega) hL) dL_law_323 ?_
  refine kt_i (y := x1) h1 ?_
  refine lv_aload_n hx hb dL_law_324 rfl (lv_at hl 6 rfl) ?_
  refine lv_iload hx hb dL_law_325 (lv_at hl 1 rfl) ?_
  refine lv_iconst (v := nI 2) hx hb dL_law_327 (by decide) ?_
  refine kn_iadd hx hb dL_law_328 ?_
  refine va_sld hx hb hX hbl hbA hS (sc_in (by omega) hL) dL_law_329 ?_
  refine kt_i (y := x2) h2 ?_
  refine lw_modi (As := [.int x1, .int x2]) C hP hD hS hK hl.1 (c_X1_out_bad l D k0 kv ko ks km kt kp kb cZ cD cI th mv io sz mk se pv pd go mw R.2.1 H.size x1 x2 hbad) (cwV 2 hts gL_law_X1_out rfl rfl rfl (by decide +kernel) ⟨Nat.le_of_ble_eq_true rfl, Nat.le_of_ble_eq_true rfl⟩) rfl dL_law_330 (by omega) (by omega) (fun H locs hP hD hS => ?_)
  refine lv_istore (lv' := [(7, .int (nI 0)), (6, .int (nI 1)), (5, .int (nI i)), (4, .ref qd), (3, .ref qo), (2, .ref k0), (1, .ref h0), (0, .ref b)]) hx hb dL_law_333 hl (by decide) rfl (fun ls hl => ?_)
  refine lv_aload_n hx hb dL_law_335 rfl (lv_at hl 5 rfl) ?_
  refine lw_thrown (R).2.1 C hP hK hl.1 dL_law_336 (by omega) (by omega) ?_
  refine kt_i (y := nI 1) (rfl) ?_
  refine lv_iload hx hb dL_law_339 (lv_at hl 1 rfl) ?_
  refine kn_icmp_eq (tgt := 346) hx hb (by decide) (by decide) dL_law_341 (by decide) (fun _ => ?_) (fun h => absurd h (by decide))
  refine lv_iload hx hb dL_law_346 (lv_at hl 1 rfl) ?_
  refine kn_ne (tgt := 363) hx hb (by decide) dL_law_348 (by decide) (fun _ => ?_) (fun h => absurd h (by decide))
  refine lv_goto (tgt := 1745) hx hb dL_law_363 (by decide) ?_
  refine W.widen (k := cells + 6) (n := slots + 40) (by omega) (by omega) ?_
  exact N R hP hD hS (lv_sub hl [2, 3, 4, 5, 6, 7] rfl)
set_option maxHeartbeats 4000000 in
set_option maxRecDepth 100000 in
theorem cs_clear {g : Nat} (hg : g < 6) (h1 : xs (nI (i + 1)).toNatClampNeg = nI g) (R : Rl nb v ln io mv sz mk se pv pd) (C : LwC l p s m meth c b L xs) (hL : L ≤ 2560) (hi : i + 4 < L) (hK : va_K D vwCl (TYL cZ cD cI cJ) s) (hP : va_P D vwCl (WA h0 hn hd hq k0 kv ko ks km kt kp kb qo qd cZ cD cI cJ nb v ln go mw th mv io sz mk se pv pd go mw oL oD) H) (hD : va_D (fun q : Nat => s.heap.size ≤ q) (WA h0 hn hd hq k0 kv ko ks km kt kp kb qo qd cZ cD cI cJ nb v ln go mw th mv io sz mk se pv pd go mw oL oD)) (hS : va_S (fun q : Nat => s.heap.size ≤ q) s.heap H locs) (hl : lv_has ls 9 [(5, .int (nI i)), (4, .ref qd), (3, .ref qo), (2, .ref k0), (1, .ref h0), (0, .ref b)]) (hcc : cells + 6 ≤ 3101) (hss : slots + 40 ≤ 21269) (N : LwN p l e s m below meth c b Q D h0 hn hd hq k0 kv ko ks km kt kp kb qo qd cZ cD cI cJ i (cells + 6) (slots + 40)) : W p l e room_1 s m #[Value.ref b] below meth c H locs cells slots Q (F0 m 366 ls []) := by
  have C0 := C
  obtain ⟨hx, hb, hr, hml, hown, hts, hX, hbl, hlocks, hl0, hZ, hxS, hxD, hxN⟩ := C0
  have hbA : ¬ (fun q : Nat => s.heap.size ≤ q) b := Nat.not_le.mpr hbl
  have hcm : room_1.cells = 3101 := rfl
  have hsm : room_1.slots = 21269 := rfl
  refine lv_aload_n hx hb dL_law_366 rfl (lv_at hl 4 rfl) ?_
  refine lv_aload_n hx hb dL_law_367 rfl (lv_at hl 5 rfl) ?_
  refine lv_iload hx hb dL_law_368 (lv_at hl 0 rfl) ?_
  refine lv_iconst (v := nI 1) hx hb dL_law_370 (by decide) ?_
  refine kn_iadd hx hb dL_law_371 ?_
  refine va_sld hx hb hX hbl hbA hS (sc_in (by omega) hL) dL_law_372 ?_
  refine kt_i (y := nI g) h1 ?_
  refine lv_aload_n hx hb dL_law_373 rfl (lv_at hl 2 rfl) ?_
  refine lw_wrapL (As := [.ref h0, .int (nI g), .ref qo]) C hP hD hS hK hl.1 (w_clear l D h0 hn hd hq qo cZ cD cI cJ nb v ln go mw oL R.1 hl0 H.size g hg) (vx_cwSW 3 hts gL_law_L_clear rfl rfl rfl (by decide +kernel) ⟨Nat.le_of_ble_eq_true rfl, Nat.le_of_ble_eq_true rfl⟩) rfl dL_law_374 (by omega) (by omega) (fun H locs hP hD hS => ?_)
  refine lv_istore (lv' := [(6, .int (nI 0)), (5, .int (nI i)), (4, .ref qd), (3, .ref qo), (2, .ref k0), (1, .ref h0), (0, .ref b)]) hx hb dL_law_377 hl (by decide) rfl (fun ls hl => ?_)
  refine lv_aload_n hx hb dL_law_379 rfl (lv_at hl 4 rfl) ?_
  refine lv_aload_n hx hb dL_law_380 rfl (lv_at hl 6 rfl) ?_
  refine lv_iload hx hb dL_law_381 (lv_at hl 1 rfl) ?_
  refine lv_iconst (v := nI 1) hx hb dL_law_383 (by decide) ?_
  refine kn_iadd hx hb dL_law_384 ?_
  refine va_sld hx hb hX hbl hbA hS (sc_in (by omega) hL) dL_law_385 ?_
  refine kt_i (y := nI g) h1 ?_
  refine lw_modi (As := [.int (nI g)]) C hP hD hS hK hl.1 (c_X1_clear l D k0 kv ko ks km kt kp kb cZ cD cI th mv io sz mk se pv pd go mw R.2.1 H.size g hg) (cwV 1 hts gL_law_X1_clear rfl rfl rfl (by decide +kernel) ⟨Nat.le_of_ble_eq_true rfl, Nat.le_of_ble_eq_true rfl⟩) rfl dL_law_386 (by omega) (by omega) (fun H locs hP hD hS => ?_)
  refine lv_istore (lv' := [(7, .int (nI (sz (2 * g) + sz (2 * g + 1)))), (6, .int (nI 0)), (5, .int (nI i)), (4, .ref qd), (3, .ref qo), (2, .ref k0), (1, .ref h0), (0, .ref b)]) hx hb dL_law_389 hl (by decide) rfl (fun ls hl => ?_)
  refine lv_aload_n hx hb dL_law_391 rfl (lv_at hl 5 rfl) ?_
  refine lw_thrown (R.clr hg).2.1 C hP hK hl.1 dL_law_392 (by omega) (by omega) ?_
  refine kt_i (y := nI 0) (rfl) ?_
  refine lv_iload hx hb dL_law_395 (lv_at hl 1 rfl) ?_
  refine kn_icmp_eq (tgt := 402) hx hb (by decide) (by decide) dL_law_397 (by decide) (fun _ => ?_) (fun h => absurd h (by decide))
  refine lv_iload hx hb dL_law_402 (lv_at hl 1 rfl) ?_
  refine kn_ne (tgt := 419) hx hb (by decide) dL_law_404 (by decide) (fun h => absurd h (by decide)) (fun _ => ?_)
  refine lv_aload_n hx hb dL_law_407 rfl (lv_at hl 4 rfl) ?_
  refine lv_iconst (v := nI 0) hx hb dL_law_408 (by decide) ?_
  refine kn_lald hx hb hK hP 12 3 rfl rfl (by decide) (by decide) dL_law_409 ?_
  refine lv_iload hx hb dL_law_410 (lv_at hl 0 rfl) ?_
  refine lv_i2l hx hb dL_law_412 rfl ?_
  refine W.lcmp hx hb dL_law_413 ?_
  refine lv_if_eq (tgt := 419) hx hb dL_law_414 (by decide) (fun c_x => ?_) (fun h => absurd (lc_eq (by rw [up_s]; exact congrArg Int32.toInt64 (by rw [R.size0 hg, R.size2 hg (by omega)]))) h)
  refine lv_goto (tgt := 1745) hx hb dL_law_419 (by decide) ?_
  refine W.widen (k := cells + 6) (n := slots + 40) (by omega) (by omega) ?_
  exact N (R.clr hg) hP hD hS (lv_sub hl [2, 3, 4, 5, 6, 7] rfl)
set_option maxHeartbeats 4000000 in
set_option maxRecDepth 100000 in
theorem cs_clear_bad {x1 : Int32} (hbad : ¬ (InN 6 x1)) (h1 : xs (nI (i + 1)).toNatClampNeg = x1) (R : Rl nb v ln io mv sz mk se pv pd) (C : LwC l p s m meth c b L xs) (hL : L ≤ 2560) (hi : i + 4 < L) (hK : va_K D vwCl (TYL cZ cD cI cJ) s) (hP : va_P D vwCl (WA h0 hn hd hq k0 kv ko ks km kt kp kb qo qd cZ cD cI cJ nb v ln go mw th mv io sz mk se pv pd go mw oL oD) H) (hD : va_D (fun q : Nat => s.heap.size ≤ q) (WA h0 hn hd hq k0 kv ko ks km kt kp kb qo qd cZ cD cI cJ nb v ln go mw th mv io sz mk se pv pd go mw oL oD)) (hS : va_S (fun q : Nat => s.heap.size ≤ q) s.heap H locs) (hl : lv_has ls 9 [(5, .int (nI i)), (4, .ref qd), (3, .ref qo), (2, .ref k0), (1, .ref h0), (0, .ref b)]) (hcc : cells + 6 ≤ 3101) (hss : slots + 40 ≤ 21269) (N : LwN p l e s m below meth c b Q D h0 hn hd hq k0 kv ko ks km kt kp kb qo qd cZ cD cI cJ i (cells + 6) (slots + 40)) : W p l e room_1 s m #[Value.ref b] below meth c H locs cells slots Q (F0 m 366 ls []) := by
  have C0 := C
  obtain ⟨hx, hb, hr, hml, hown, hts, hX, hbl, hlocks, hl0, hZ, hxS, hxD, hxN⟩ := C0
  have hbA : ¬ (fun q : Nat => s.heap.size ≤ q) b := Nat.not_le.mpr hbl
  have hcm : room_1.cells = 3101 := rfl
  have hsm : room_1.slots = 21269 := rfl
  refine lv_aload_n hx hb dL_law_366 rfl (lv_at hl 4 rfl) ?_
  refine lv_aload_n hx hb dL_law_367 rfl (lv_at hl 5 rfl) ?_
  refine lv_iload hx hb dL_law_368 (lv_at hl 0 rfl) ?_
  refine lv_iconst (v := nI 1) hx hb dL_law_370 (by decide) ?_
  refine kn_iadd hx hb dL_law_371 ?_
  refine va_sld hx hb hX hbl hbA hS (sc_in (by omega) hL) dL_law_372 ?_
  refine kt_i (y := x1) h1 ?_
  refine lv_aload_n hx hb dL_law_373 rfl (lv_at hl 2 rfl) ?_
  refine lw_wrapL (As := [.ref h0, .int x1, .ref qo]) C hP hD hS hK hl.1 (w_clear_bad l D h0 hn hd hq qo cZ cD cI cJ nb v ln go mw oL R.1 hl0 H.size x1 hbad) (vx_cwSW 3 hts gL_law_L_clear rfl rfl rfl (by decide +kernel) ⟨Nat.le_of_ble_eq_true rfl, Nat.le_of_ble_eq_true rfl⟩) rfl dL_law_374 (by omega) (by omega) (fun H locs hP hD hS => ?_)
  refine lv_istore (lv' := [(6, .int (nI 1)), (5, .int (nI i)), (4, .ref qd), (3, .ref qo), (2, .ref k0), (1, .ref h0), (0, .ref b)]) hx hb dL_law_377 hl (by decide) rfl (fun ls hl => ?_)
  refine lv_aload_n hx hb dL_law_379 rfl (lv_at hl 4 rfl) ?_
  refine lv_aload_n hx hb dL_law_380 rfl (lv_at hl 6 rfl) ?_
  refine lv_iload hx hb dL_law_381 (lv_at hl 1 rfl) ?_
  refine lv_iconst (v := nI 1) hx hb dL_law_383 (by decide) ?_
  refine kn_iadd hx hb dL_law_384 ?_
  refine va_sld hx hb hX hbl hbA hS (sc_in (by omega) hL) dL_law_385 ?_
  refine kt_i (y := x1) h1 ?_
  refine lw_modi (As := [.int x1]) C hP hD hS hK hl.1 (c_X1_clear_bad l D k0 kv ko ks km kt kp kb cZ cD cI th mv io sz mk se pv pd go mw R.2.1 H.size x1 hbad) (cwV 1 hts gL_law_X1_clear rfl rfl rfl (by decide +kernel) ⟨Nat.le_of_ble_eq_true rfl, Nat.le_of_ble_eq_true rfl⟩) rfl dL_law_386 (by omega) (by omega) (fun H locs hP hD hS => ?_)
  refine lv_istore (lv' := [(7, .int (nI 0)), (6, .int (nI 1)), (5, .int (nI i)), (4, .ref qd), (3, .ref qo), (2, .ref k0), (1, .ref h0), (0, .ref b)]) hx hb dL_law_389 hl (by decide) rfl (fun ls hl => ?_)
  refine lv_aload_n hx hb dL_law_391 rfl (lv_at hl 5 rfl) ?_
  refine lw_thrown (R).2.1 C hP hK hl.1 dL_law_392 (by omega) (by omega) ?_
  refine kt_i (y := nI 1) (rfl) ?_
  refine lv_iload hx hb dL_law_395 (lv_at hl 1 rfl) ?_
  refine kn_icmp_eq (tgt := 402) hx hb (by decide) (by decide) dL_law_397 (by decide) (fun _ => ?_) (fun h => absurd h (by decide))
  refine lv_iload hx hb dL_law_402 (lv_at hl 1 rfl) ?_
  refine kn_ne (tgt := 419) hx hb (by decide) dL_law_404 (by decide) (fun _ => ?_) (fun h => absurd h (by decide))
  refine lv_goto (tgt := 1745) hx hb dL_law_419 (by decide) ?_
  refine W.widen (k := cells + 6) (n := slots + 40) (by omega) (by omega) ?_
  exact N R hP hD hS (lv_sub hl [2, 3, 4, 5, 6, 7] rfl)
set_option maxHeartbeats 4000000 in
set_option maxRecDepth 100000 in
theorem cs_mark {g : Nat} (hg : g < 6) {k : Nat} (hk : k < 2) {x3 : Int32} (hlv : lvl (FP.dmul (FP.i2d x3) 4593671619917905920) = true) (h1 : xs (nI (i + 1)).toNatClampNeg = nI g) (h2 : xs (nI (i + 2)).toNatClampNeg = nI k) (h3 : xs (nI (i + 3)).toNatClampNeg = x3) (R : Rl nb v ln io mv sz mk se pv pd) (C : LwC l p s m meth c b L xs) (hL : L ≤ 2560) (hi : i + 4 < L) (hK : va_K D vwCl (TYL cZ cD cI cJ) s) (hP : va_P D vwCl (WA h0 hn hd hq k0 kv ko ks km kt kp kb qo qd cZ cD cI cJ nb v ln go mw th mv io sz mk se pv pd go mw oL oD) H) (hD : va_D (fun q : Nat => s.heap.size ≤ q) (WA h0 hn hd hq k0 kv ko ks km kt kp kb qo qd cZ cD cI cJ nb v ln go mw th mv io sz mk se pv pd go mw oL oD)) (hS : va_S (fun q : Nat => s.heap.size ≤ q) s.heap H locs) (hl : lv_has ls 9 [(5, .int (nI i)), (4, .ref qd), (3, .ref qo), (2, .ref k0), (1, .ref h0), (0, .ref b)]) (hcc : cells + 6 ≤ 3101) (hss : slots + 40 ≤ 21269) (N : LwN p l e s m below meth c b Q D h0 hn hd hq k0 kv ko ks km kt kp kb qo qd cZ cD cI cJ i (cells + 6) (slots + 40)) : W p l e room_1 s m #[Value.ref b] below meth c H locs cells slots Q (F0 m 422 ls []) := by
  have C0 := C
  obtain ⟨hx, hb, hr, hml, hown, hts, hX, hbl, hlocks, hl0, hZ, hxS, hxD, hxN⟩ := C0
  have hbA : ¬ (fun q : Nat => s.heap.size ≤ q) b := Nat.not_le.mpr hbl
  have hcm : room_1.cells = 3101 := rfl
  have hsm : room_1.slots = 21269 := rfl
  have hc_101 := hts (.constantDouble RL 101 4593671619917905920) (by decide +kernel)
  refine lv_aload_n hx hb dL_law_422 rfl (lv_at hl 4 rfl) ?_
  refine lv_aload_n hx hb dL_law_423 rfl (lv_at hl 5 rfl) ?_
  refine lv_iload hx hb dL_law_424 (lv_at hl 0 rfl) ?_
  refine lv_iconst (v := nI 1) hx hb dL_law_426 (by decide) ?_
  refine kn_iadd hx hb dL_law_427 ?_
  refine va_sld hx hb hX hbl hbA hS (sc_in (by omega) hL) dL_law_428 ?_
  refine kt_i (y := nI g) h1 ?_
  refine lv_aload_n hx hb dL_law_429 rfl (lv_at hl 5 rfl) ?_
  refine lv_iload hx hb dL_law_430 (lv_at hl 0 rfl) ?_
  refine lv_iconst (v := nI 2) hx hb dL_law_432 (by decide) ?_
  refine kn_iadd hx hb dL_law_433 ?_
  refine va_sld hx hb hX hbl hbA hS (sc_in (by omega) hL) dL_law_434 ?_
  refine kt_i (y := nI k) h2 ?_
  refine lv_aload_n hx hb dL_law_435 rfl (lv_at hl 5 rfl) ?_
  refine lv_iload hx hb dL_law_436 (lv_at hl 0 rfl) ?_
  refine lv_iconst (v := nI 3) hx hb dL_law_438 (by decide) ?_
  refine kn_iadd hx hb dL_law_439 ?_
  refine va_sld hx hb hX hbl hbA hS (sc_in (by omega) hL) dL_law_440 ?_
  refine kt_i (y := x3) h3 ?_
  refine lv_i2d hx hb dL_law_441 ?_
  refine lv_ldc2d hx hb hown hc_101 dL_law_442 ?_
  refine lv_dmul hx hb dL_law_445 (n64_of (mul_num _)) ?_
  refine lv_aload_n hx hb dL_law_446 rfl (lv_at hl 2 rfl) ?_
  refine lw_wrapL (As := [.ref h0, .int (nI g), .int (nI k), .double (FP.dmul (FP.i2d x3) 4593671619917905920), .ref qo]) C hP hD hS hK hl.1 (w_mark l D h0 hn hd hq qo cZ cD cI cJ nb v ln go mw oL R.1 hl0 H.size g k (FP.dmul (FP.i2d x3) 4593671619917905920) hg hk hlv) (vx_cwSW 5 hts gL_law_L_mark rfl rfl rfl (by decide +kernel) ⟨Nat.le_of_ble_eq_true rfl, Nat.le_of_ble_eq_true rfl⟩) rfl dL_law_447 (by omega) (by omega) (fun H locs hP hD hS => ?_)
  refine lv_istore (lv' := [(6, .int (nI 0)), (5, .int (nI i)), (4, .ref qd), (3, .ref qo), (2, .ref k0), (1, .ref h0), (0, .ref b)]) hx hb dL_law_450 hl (by decide) rfl (fun ls hl => ?_)
  refine lv_aload_n hx hb dL_law_452 rfl (lv_at hl 4 rfl) ?_
  refine lv_aload_n hx hb dL_law_453 rfl (lv_at hl 6 rfl) ?_
  refine lv_iload hx hb dL_law_454 (lv_at hl 1 rfl) ?_
  refine lv_iconst (v := nI 1) hx hb dL_law_456 (by decide) ?_
  refine kn_iadd hx hb dL_law_457 ?_
  refine va_sld hx hb hX hbl hbA hS (sc_in (by omega) hL) dL_law_458 ?_
  refine kt_i (y := nI g) h1 ?_
  refine lv_aload_n hx hb dL_law_459 rfl (lv_at hl 6 rfl) ?_
  refine lv_iload hx hb dL_law_460 (lv_at hl 1 rfl) ?_
  refine lv_iconst (v := nI 2) hx hb dL_law_462 (by decide) ?_
  refine kn_iadd hx hb dL_law_463 ?_
  refine va_sld hx hb hX hbl hbA hS (sc_in (by omega) hL) dL_law_464 ?_
  refine kt_i (y := nI k) h2 ?_
  refine lv_aload_n hx hb dL_law_465 rfl (lv_at hl 6 rfl) ?_
  refine lv_iload hx hb dL_law_466 (lv_at hl 1 rfl) ?_
  refine lv_iconst (v := nI 3) hx hb dL_law_468 (by decide) ?_
  refine kn_iadd hx hb dL_law_469 ?_
  refine va_sld hx hb hX hbl hbA hS (sc_in (by omega) hL) dL_law_470 ?_
  refine kt_i (y := x3) h3 ?_
  refine lv_i2d hx hb dL_law_471 ?_
  refine lv_ldc2d hx hb hown hc_101 dL_law_472 ?_
  refine lv_dmul hx hb dL_law_475 (n64_of (mul_num _)) ?_
  refine lw_modi (As := [.int (nI g), .int (nI k), .double (FP.dmul (FP.i2d x3) 4593671619917905920)]) C hP hD hS hK hl.1 (c_X1_mark l D k0 kv ko ks km kt kp kb cZ cD cI th mv io sz mk se pv pd go mw R.2.1 H.size g k (FP.dmul (FP.i2d x3) 4593671619917905920) hg hk hlv) (cwV 3 hts gL_law_X1_mark rfl rfl rfl (by decide +kernel) ⟨Nat.le_of_ble_eq_true rfl, Nat.le_of_ble_eq_true rfl⟩) rfl dL_law_476 (by omega) (by omega) (fun H locs hP hD hS => ?_)
  refine lv_istore (lv' := [(7, .int (b2i (se (3 * g + k)))), (6, .int (nI 0)), (5, .int (nI i)), (4, .ref qd), (3, .ref qo), (2, .ref k0), (1, .ref h0), (0, .ref b)]) hx hb dL_law_479 hl (by decide) rfl (fun ls hl => ?_)
  refine lv_aload_n hx hb dL_law_481 rfl (lv_at hl 5 rfl) ?_
  refine lw_thrown (R.mrk_t (k := k) hg (by omega) (lvl_num hlv)).2.1 C hP hK hl.1 dL_law_482 (by omega) (by omega) ?_
  refine kt_i (y := nI 0) (rfl) ?_
  refine lv_iload hx hb dL_law_485 (lv_at hl 1 rfl) ?_
  refine kn_icmp_eq (tgt := 492) hx hb (by decide) (by decide) dL_law_487 (by decide) (fun _ => ?_) (fun h => absurd h (by decide))
  refine lv_iload hx hb dL_law_492 (lv_at hl 1 rfl) ?_
  refine kn_ne (tgt := 516) hx hb (by decide) dL_law_494 (by decide) (fun h => absurd h (by decide)) (fun _ => ?_)
  refine lv_aload_n hx hb dL_law_497 rfl (lv_at hl 4 rfl) ?_
  refine lv_iconst (v := nI 0) hx hb dL_law_498 (by decide) ?_
  refine kn_lald hx hb hK hP 12 3 rfl rfl (by decide) (by decide) dL_law_499 ?_
  refine lv_iload hx hb dL_law_500 (lv_at hl 0 rfl) ?_
  refine kb_eq (tgt := 509) hx hb dL_law_502 (by decide) (fun c_1 => ?_) (fun c_1 => ?_)
  · refine lv_lconst (v := 0) hx hb dL_law_509 (by decide) ?_
    refine W.lcmp hx hb dL_law_510 ?_
    refine lv_if_eq (tgt := 516) hx hb dL_law_511 (by decide) (fun c_x => ?_) (fun h => absurd (lc_eq (by rw [up_s, ← R.was hg (by omega), c_1]; rfl)) h)
    refine lv_goto (tgt := 1745) hx hb dL_law_516 (by decide) ?_
    refine W.widen (k := cells + 6) (n := slots + 40) (by omega) (by omega) ?_
    exact N (R.mrk_t (k := k) hg (by omega) (lvl_num hlv)) hP hD hS (lv_sub hl [2, 3, 4, 5, 6, 7] rfl)
  · refine lv_lconst (v := 1) hx hb dL_law_505 (by decide) ?_
    refine lv_goto (tgt := 510) hx hb dL_law_506 (by decide) ?_
    refine W.lcmp hx hb dL_law_510 ?_
    refine lv_if_eq (tgt := 516) hx hb dL_law_511 (by decide) (fun c_x => ?_) (fun h => absurd (lc_eq (by rw [up_s, ← R.was hg (by omega), c_1]; rfl)) h)
    refine lv_goto (tgt := 1745) hx hb dL_law_516 (by decide) ?_
    refine W.widen (k := cells + 6) (n := slots + 40) (by omega) (by omega) ?_
    exact N (R.mrk_t (k := k) hg (by omega) (lvl_num hlv)) hP hD hS (lv_sub hl [2, 3, 4, 5, 6, 7] rfl)
set_option maxHeartbeats 4000000 in
set_option maxRecDepth 100000 in
theorem cs_mark_bad {x1 x2 x3 : Int32} (hbad : ¬ (InN 6 x1 ∧ InN 2 x2 ∧ lvl (FP.dmul (FP.i2d x3) 4593671619917905920) = true)) (h1 : xs (nI (i + 1)).toNatClampNeg = x1) (h2 : xs (nI (i + 2)).toNatClampNeg = x2) (h3 : xs (nI (i + 3)).toNatClampNeg = x3) (R : Rl nb v ln io mv sz mk se pv pd) (C : LwC l p s m meth c b L xs) (hL : L ≤ 2560) (hi : i + 4 < L) (hK : va_K D vwCl (TYL cZ cD cI cJ) s) (hP : va_P D vwCl (WA h0 hn hd hq k0 kv ko ks km kt kp kb qo qd cZ cD cI cJ nb v ln go mw th mv io sz mk se pv pd go mw oL oD) H) (hD : va_D (fun q : Nat => s.heap.size ≤ q) (WA h0 hn hd hq k0 kv ko ks km kt kp kb qo qd cZ cD cI cJ nb v ln go mw th mv io sz mk se pv pd go mw oL oD)) (hS : va_S (fun q : Nat => s.heap.size ≤ q) s.heap H locs) (hl : lv_has ls 9 [(5, .int (nI i)), (4, .ref qd), (3, .ref qo), (2, .ref k0), (1, .ref h0), (0, .ref b)]) (hcc : cells + 6 ≤ 3101) (hss : slots + 40 ≤ 21269) (N : LwN p l e s m below meth c b Q D h0 hn hd hq k0 kv ko ks km kt kp kb qo qd cZ cD cI cJ i (cells + 6) (slots + 40)) : W p l e room_1 s m #[Value.ref b] below meth c H locs cells slots Q (F0 m 422 ls []) := by
  have C0 := C
  obtain ⟨hx, hb, hr, hml, hown, hts, hX, hbl, hlocks, hl0, hZ, hxS, hxD, hxN⟩ := C0
  have hbA : ¬ (fun q : Nat => s.heap.size ≤ q) b := Nat.not_le.mpr hbl
  have hcm : room_1.cells = 3101 := rfl
  have hsm : room_1.slots = 21269 := rfl
  have hc_101 := hts (.constantDouble RL 101 4593671619917905920) (by decide +kernel)
  refine lv_aload_n hx hb dL_law_422 rfl (lv_at hl 4 rfl) ?_
  refine lv_aload_n hx hb dL_law_423 rfl (lv_at hl 5 rfl) ?_
  refine lv_iload hx hb dL_law_424 (lv_at hl 0 rfl) ?_
  refine lv_iconst (v := nI 1) hx hb dL_law_426 (by decide) ?_
  refine kn_iadd hx hb dL_law_427 ?_
  refine va_sld hx hb hX hbl hbA hS (sc_in (by omega) hL) dL_law_428 ?_
  refine kt_i (y := x1) h1 ?_
  refine lv_aload_n hx hb dL_law_429 rfl (lv_at hl 5 rfl) ?_
  refine lv_iload hx hb dL_law_430 (lv_at hl 0 rfl) ?_
  refine lv_iconst (v := nI 2) hx hb dL_law_432 (by decide) ?_
  refine kn_iadd hx hb dL_law_433 ?_
  refine va_sld hx hb hX hbl hbA hS (sc_in (by omega) hL) dL_law_434 ?_
  refine kt_i (y := x2) h2 ?_
  refine lv_aload_n hx hb dL_law_435 rfl (lv_at hl 5 rfl) ?_
  refine lv_iload hx hb dL_law_436 (lv_at hl 0 rfl) ?_
  refine lv_iconst (v := nI 3) hx hb dL_law_438 (by decide) ?_
  refine kn_iadd hx hb dL_law_439 ?_
  refine va_sld hx hb hX hbl hbA hS (sc_in (by omega) hL) dL_law_440 ?_
  refine kt_i (y := x3) h3 ?_
  refine lv_i2d hx hb dL_law_441 ?_
  refine lv_ldc2d hx hb hown hc_101 dL_law_442 ?_
  refine lv_dmul hx hb dL_law_445 (n64_of (mul_num _)) ?_
  refine lv_aload_n hx hb dL_law_446 rfl (lv_at hl 2 rfl) ?_
  refine lw_wrapL (As := [.ref h0, .int x1, .int x2, .double (FP.dmul (FP.i2d x3) 4593671619917905920), .ref qo]) C hP hD hS hK hl.1 (w_mark_bad l D h0 hn hd hq qo cZ cD cI cJ nb v ln go mw oL R.1 hl0 H.size x1 x2 (FP.dmul (FP.i2d x3) 4593671619917905920) hbad) (vx_cwSW 5 hts gL_law_L_mark rfl rfl rfl (by decide +kernel) ⟨Nat.le_of_ble_eq_true rfl, Nat.le_of_ble_eq_true rfl⟩) rfl dL_law_447 (by omega) (by omega) (fun H locs hP hD hS => ?_)
  refine lv_istore (lv' := [(6, .int (nI 1)), (5, .int (nI i)), (4, .ref qd), (3, .ref qo), (2, .ref k0), (1, .ref h0), (0, .ref b)]) hx hb dL_law_450 hl (by decide) rfl (fun ls hl => ?_)
  refine lv_aload_n hx hb dL_law_452 rfl (lv_at hl 4 rfl) ?_
  refine lv_aload_n hx hb dL_law_453 rfl (lv_at hl 6 rfl) ?_
  refine lv_iload hx hb dL_law_454 (lv_at hl 1 rfl) ?_
  refine lv_iconst (v := nI 1) hx hb dL_law_456 (by decide) ?_
  refine kn_iadd hx hb dL_law_457 ?_
  refine va_sld hx hb hX hbl hbA hS (sc_in (by omega) hL) dL_law_458 ?_
  refine kt_i (y := x1) h1 ?_
  refine lv_aload_n hx hb dL_law_459 rfl (lv_at hl 6 rfl) ?_
  refine lv_iload hx hb dL_law_460 (lv_at hl 1 rfl) ?_
  refine lv_iconst (v := nI 2) hx hb dL_law_462 (by decide) ?_
  refine kn_iadd hx hb dL_law_463 ?_
  refine va_sld hx hb hX hbl hbA hS (sc_in (by omega) hL) dL_law_464 ?_
  refine kt_i (y := x2) h2 ?_
  refine lv_aload_n hx hb dL_law_465 rfl (lv_at hl 6 rfl) ?_
  refine lv_iload hx hb dL_law_466 (lv_at hl 1 rfl) ?_
  refine lv_iconst (v := nI 3) hx hb dL_law_468 (by decide) ?_
  refine kn_iadd hx hb dL_law_469 ?_
  refine va_sld hx hb hX hbl hbA hS (sc_in (by omega) hL) dL_law_470 ?_
  refine kt_i (y := x3) h3 ?_
  refine lv_i2d hx hb dL_law_471 ?_
  refine lv_ldc2d hx hb hown hc_101 dL_law_472 ?_
  refine lv_dmul hx hb dL_law_475 (n64_of (mul_num _)) ?_
  refine lw_modi (As := [.int x1, .int x2, .double (FP.dmul (FP.i2d x3) 4593671619917905920)]) C hP hD hS hK hl.1 (c_X1_mark_bad l D k0 kv ko ks km kt kp kb cZ cD cI th mv io sz mk se pv pd go mw R.2.1 H.size x1 x2 (FP.dmul (FP.i2d x3) 4593671619917905920) hbad) (cwV 3 hts gL_law_X1_mark rfl rfl rfl (by decide +kernel) ⟨Nat.le_of_ble_eq_true rfl, Nat.le_of_ble_eq_true rfl⟩) rfl dL_law_476 (by omega) (by omega) (fun H locs hP hD hS => ?_)
  refine lv_istore (lv' := [(7, .int (b2i false)), (6, .int (nI 1)), (5, .int (nI i)), (4, .ref qd), (3, .ref qo), (2, .ref k0), (1, .ref h0), (0, .ref b)]) hx hb dL_law_479 hl (by decide) rfl (fun ls hl => ?_)
  refine lv_aload_n hx hb dL_law_481 rfl (lv_at hl 5 rfl) ?_
  refine lw_thrown (R).2.1 C hP hK hl.1 dL_law_482 (by omega) (by omega) ?_
  refine kt_i (y := nI 1) (rfl) ?_
  refine lv_iload hx hb dL_law_485 (lv_at hl 1 rfl) ?_
  refine kn_icmp_eq (tgt := 492) hx hb (by decide) (by decide) dL_law_487 (by decide) (fun _ => ?_) (fun h => absurd h (by decide))
  refine lv_iload hx hb dL_law_492 (lv_at hl 1 rfl) ?_
  refine kn_ne (tgt := 516) hx hb (by decide) dL_law_494 (by decide) (fun _ => ?_) (fun h => absurd h (by decide))
  refine lv_goto (tgt := 1745) hx hb dL_law_516 (by decide) ?_
  refine W.widen (k := cells + 6) (n := slots + 40) (by omega) (by omega) ?_
  exact N R hP hD hS (lv_sub hl [2, 3, 4, 5, 6, 7] rfl)
set_option maxHeartbeats 4000000 in
set_option maxRecDepth 100000 in
theorem cs_gale {g : Nat} (hg : g < 6) {x2 : Int32} (hlv : wnd (FP.fmul (FP.i2f x2) 1040187392) = true) (h1 : xs (nI (i + 1)).toNatClampNeg = nI g) (h2 : xs (nI (i + 2)).toNatClampNeg = x2) (R : Rl nb v ln io mv sz mk se pv pd) (C : LwC l p s m meth c b L xs) (hL : L ≤ 2560) (hi : i + 4 < L) (hK : va_K D vwCl (TYL cZ cD cI cJ) s) (hP : va_P D vwCl (WA h0 hn hd hq k0 kv ko ks km kt kp kb qo qd cZ cD cI cJ nb v ln go mw th mv io sz mk se pv pd go mw oL oD) H) (hD : va_D (fun q : Nat => s.heap.size ≤ q) (WA h0 hn hd hq k0 kv ko ks km kt kp kb qo qd cZ cD cI cJ nb v ln go mw th mv io sz mk se pv pd go mw oL oD)) (hS : va_S (fun q : Nat => s.heap.size ≤ q) s.heap H locs) (hl : lv_has ls 9 [(5, .int (nI i)), (4, .ref qd), (3, .ref qo), (2, .ref k0), (1, .ref h0), (0, .ref b)]) (hcc : cells + 6 ≤ 3101) (hss : slots + 40 ≤ 21269) (N : LwN p l e s m below meth c b Q D h0 hn hd hq k0 kv ko ks km kt kp kb qo qd cZ cD cI cJ i (cells + 6) (slots + 40)) : W p l e room_1 s m #[Value.ref b] below meth c H locs cells slots Q (F0 m 519 ls []) := by
  have C0 := C
  obtain ⟨hx, hb, hr, hml, hown, hts, hX, hbl, hlocks, hl0, hZ, hxS, hxD, hxN⟩ := C0
  have hbA : ¬ (fun q : Nat => s.heap.size ≤ q) b := Nat.not_le.mpr hbl
  have hcm : room_1.cells = 3101 := rfl
  have hsm : room_1.slots = 21269 := rfl
  have hu : num (FP.f2d (FP.fmul (FP.i2f x2) 1040187392)) := (by show FP.dIsNaN _ = false; rw [FP.f2d_nan]; exact mul_num32 _)
  have hc_113 := hts (.constantFloat RL 113 1040187392) (by decide +kernel)
  refine lv_aload_n hx hb dL_law_519 rfl (lv_at hl 4 rfl) ?_
  refine lv_aload_n hx hb dL_law_520 rfl (lv_at hl 5 rfl) ?_
  refine lv_iload hx hb dL_law_521 (lv_at hl 0 rfl) ?_
  refine lv_iconst (v := nI 1) hx hb dL_law_523 (by decide) ?_
  refine kn_iadd hx hb dL_law_524 ?_
  refine va_sld hx hb hX hbl hbA hS (sc_in (by omega) hL) dL_law_525 ?_
  refine kt_i (y := nI g) h1 ?_
  refine lv_aload_n hx hb dL_law_526 rfl (lv_at hl 5 rfl) ?_
  refine lv_iload hx hb dL_law_527 (lv_at hl 0 rfl) ?_
  refine lv_iconst (v := nI 2) hx hb dL_law_529 (by decide) ?_
  refine kn_iadd hx hb dL_law_530 ?_
  refine va_sld hx hb hX hbl hbA hS (sc_in (by omega) hL) dL_law_531 ?_
  refine kt_i (y := x2) h2 ?_
  refine lv_i2f hx hb dL_law_532 ?_
  refine lv_ldcf hx hb hown hc_113 dL_law_533 ?_
  refine lv_fmul hx hb dL_law_535 (n32_of (mul_num32 _)) ?_
  refine lv_aload_n hx hb dL_law_536 rfl (lv_at hl 2 rfl) ?_
  refine lw_wrapL (As := [.ref h0, .int (nI g), .float (FP.fmul (FP.i2f x2) 1040187392), .ref qo]) C hP hD hS hK hl.1 (w_gale l D h0 hn hd hq qo cZ cD cI cJ nb v ln go mw oL R.1 hl0 H.size g (FP.fmul (FP.i2f x2) 1040187392) hg hlv) (vx_cwSW 4 hts gL_law_L_gale rfl rfl rfl (by decide +kernel) ⟨Nat.le_of_ble_eq_true rfl, Nat.le_of_ble_eq_true rfl⟩) rfl dL_law_537 (by omega) (by omega) (fun H locs hP hD hS => ?_)
  refine lv_istore (lv' := [(6, .int (nI 0)), (5, .int (nI i)), (4, .ref qd), (3, .ref qo), (2, .ref k0), (1, .ref h0), (0, .ref b)]) hx hb dL_law_540 hl (by decide) rfl (fun ls hl => ?_)
  refine lv_aload_n hx hb dL_law_542 rfl (lv_at hl 4 rfl) ?_
  refine lv_aload_n hx hb dL_law_543 rfl (lv_at hl 6 rfl) ?_
  refine lv_iload hx hb dL_law_544 (lv_at hl 1 rfl) ?_
  refine lv_iconst (v := nI 1) hx hb dL_law_546 (by decide) ?_
  refine kn_iadd hx hb dL_law_547 ?_
  refine va_sld hx hb hX hbl hbA hS (sc_in (by omega) hL) dL_law_548 ?_
  refine kt_i (y := nI g) h1 ?_
  refine lv_aload_n hx hb dL_law_549 rfl (lv_at hl 6 rfl) ?_
  refine lv_iload hx hb dL_law_550 (lv_at hl 1 rfl) ?_
  refine lv_iconst (v := nI 2) hx hb dL_law_552 (by decide) ?_
  refine kn_iadd hx hb dL_law_553 ?_
  refine va_sld hx hb hX hbl hbA hS (sc_in (by omega) hL) dL_law_554 ?_
  refine kt_i (y := x2) h2 ?_
  refine lv_i2f hx hb dL_law_555 ?_
  refine lv_ldcf hx hb hown hc_113 dL_law_556 ?_
  refine lv_fmul hx hb dL_law_558 (n32_of (mul_num32 _)) ?_
  refine lw_modi (As := [.int (nI g), .float (FP.fmul (FP.i2f x2) 1040187392)]) C hP hD hS hK hl.1 (c_X1_gale l D k0 kv ko ks km kt kp kb cZ cD cI th mv io sz mk se pv pd go mw R.2.1 H.size g (FP.fmul (FP.i2f x2) 1040187392) hg (n64_of (by rw [FP.f2d_nan]; exact mul_num32 _)) (by rw [wnd_wnM (mul_num32 _)]; exact hlv)) (cwV 2 hts gL_law_X1_gale rfl rfl rfl (by decide +kernel) ⟨Nat.le_of_ble_eq_true rfl, Nat.le_of_ble_eq_true rfl⟩) rfl dL_law_559 (by omega) (by omega) (fun H locs hP hD hS => ?_)
  refine lv_istore (lv' := [(7, .int (b2i (se (3 * g + 2)))), (6, .int (nI 0)), (5, .int (nI i)), (4, .ref qd), (3, .ref qo), (2, .ref k0), (1, .ref h0), (0, .ref b)]) hx hb dL_law_562 hl (by decide) rfl (fun ls hl => ?_)
  refine lv_aload_n hx hb dL_law_564 rfl (lv_at hl 5 rfl) ?_
  refine lw_thrown (R.mrk_t (k := 2) hg (by omega) hu).2.1 C hP hK hl.1 dL_law_565 (by omega) (by omega) ?_
  refine kt_i (y := nI 0) (rfl) ?_
  refine lv_iload hx hb dL_law_568 (lv_at hl 1 rfl) ?_
  refine kn_icmp_eq (tgt := 575) hx hb (by decide) (by decide) dL_law_570 (by decide) (fun _ => ?_) (fun h => absurd h (by decide))
  refine lv_iload hx hb dL_law_575 (lv_at hl 1 rfl) ?_
  refine kn_ne (tgt := 599) hx hb (by decide) dL_law_577 (by decide) (fun h => absurd h (by decide)) (fun _ => ?_)
  refine lv_aload_n hx hb dL_law_580 rfl (lv_at hl 4 rfl) ?_
  refine lv_iconst (v := nI 0) hx hb dL_law_581 (by decide) ?_
  refine kn_lald hx hb hK hP 12 3 rfl rfl (by decide) (by decide) dL_law_582 ?_
  refine lv_iload hx hb dL_law_583 (lv_at hl 0 rfl) ?_
  refine kb_eq (tgt := 592) hx hb dL_law_585 (by decide) (fun c_1 => ?_) (fun c_1 => ?_)
  · refine lv_lconst (v := 0) hx hb dL_law_592 (by decide) ?_
    refine W.lcmp hx hb dL_law_593 ?_
    refine lv_if_eq (tgt := 599) hx hb dL_law_594 (by decide) (fun c_x => ?_) (fun h => absurd (lc_eq (by rw [up_s, ← R.was (k := 2) hg (by omega), c_1]; rfl)) h)
    refine lv_goto (tgt := 1745) hx hb dL_law_599 (by decide) ?_
    refine W.widen (k := cells + 6) (n := slots + 40) (by omega) (by omega) ?_
    exact N (R.mrk_t (k := 2) hg (by omega) hu) hP hD hS (lv_sub hl [2, 3, 4, 5, 6, 7] rfl)
  · refine lv_lconst (v := 1) hx hb dL_law_588 (by decide) ?_
    refine lv_goto (tgt := 593) hx hb dL_law_589 (by decide) ?_
    refine W.lcmp hx hb dL_law_593 ?_
    refine lv_if_eq (tgt := 599) hx hb dL_law_594 (by decide) (fun c_x => ?_) (fun h => absurd (lc_eq (by rw [up_s, ← R.was (k := 2) hg (by omega), c_1]; rfl)) h)
    refine lv_goto (tgt := 1745) hx hb dL_law_599 (by decide) ?_
    refine W.widen (k := cells + 6) (n := slots + 40) (by omega) (by omega) ?_
    exact N (R.mrk_t (k := 2) hg (by omega) hu) hP hD hS (lv_sub hl [2, 3, 4, 5, 6, 7] rfl)
set_option maxHeartbeats 4000000 in
set_option maxRecDepth 100000 in
theorem cs_gale_bad {x1 x2 : Int32} (hbad : ¬ (InN 6 x1 ∧ wnd (FP.fmul (FP.i2f x2) 1040187392) = true)) (h1 : xs (nI (i + 1)).toNatClampNeg = x1) (h2 : xs (nI (i + 2)).toNatClampNeg = x2) (R : Rl nb v ln io mv sz mk se pv pd) (C : LwC l p s m meth c b L xs) (hL : L ≤ 2560) (hi : i + 4 < L) (hK : va_K D vwCl (TYL cZ cD cI cJ) s) (hP : va_P D vwCl (WA h0 hn hd hq k0 kv ko ks km kt kp kb qo qd cZ cD cI cJ nb v ln go mw th mv io sz mk se pv pd go mw oL oD) H) (hD : va_D (fun q : Nat => s.heap.size ≤ q) (WA h0 hn hd hq k0 kv ko ks km kt kp kb qo qd cZ cD cI cJ nb v ln go mw th mv io sz mk se pv pd go mw oL oD)) (hS : va_S (fun q : Nat => s.heap.size ≤ q) s.heap H locs) (hl : lv_has ls 9 [(5, .int (nI i)), (4, .ref qd), (3, .ref qo), (2, .ref k0), (1, .ref h0), (0, .ref b)]) (hcc : cells + 6 ≤ 3101) (hss : slots + 40 ≤ 21269) (N : LwN p l e s m below meth c b Q D h0 hn hd hq k0 kv ko ks km kt kp kb qo qd cZ cD cI cJ i (cells + 6) (slots + 40)) : W p l e room_1 s m #[Value.ref b] below meth c H locs cells slots Q (F0 m 519 ls []) := by
  have C0 := C
  obtain ⟨hx, hb, hr, hml, hown, hts, hX, hbl, hlocks, hl0, hZ, hxS, hxD, hxN⟩ := C0
  have hbA : ¬ (fun q : Nat => s.heap.size ≤ q) b := Nat.not_le.mpr hbl
  have hcm : room_1.cells = 3101 := rfl
  have hsm : room_1.slots = 21269 := rfl
  have hc_113 := hts (.constantFloat RL 113 1040187392) (by decide +kernel)
  refine lv_aload_n hx hb dL_law_519 rfl (lv_at hl 4 rfl) ?_
  refine lv_aload_n hx hb dL_law_520 rfl (lv_at hl 5 rfl) ?_
  refine lv_iload hx hb dL_law_521 (lv_at hl 0 rfl) ?_
  refine lv_iconst (v := nI 1) hx hb dL_law_523 (by decide) ?_
  refine kn_iadd hx hb dL_law_524 ?_
  refine va_sld hx hb hX hbl hbA hS (sc_in (by omega) hL) dL_law_525 ?_
  refine kt_i (y := x1) h1 ?_
  refine lv_aload_n hx hb dL_law_526 rfl (lv_at hl 5 rfl) ?_
  refine lv_iload hx hb dL_law_527 (lv_at hl 0 rfl) ?_
  refine lv_iconst (v := nI 2) hx hb dL_law_529 (by decide) ?_
  refine kn_iadd hx hb dL_law_530 ?_
  refine va_sld hx hb hX hbl hbA hS (sc_in (by omega) hL) dL_law_531 ?_
  refine kt_i (y := x2) h2 ?_
  refine lv_i2f hx hb dL_law_532 ?_
  refine lv_ldcf hx hb hown hc_113 dL_law_533 ?_
  refine lv_fmul hx hb dL_law_535 (n32_of (mul_num32 _)) ?_
  refine lv_aload_n hx hb dL_law_536 rfl (lv_at hl 2 rfl) ?_
  refine lw_wrapL (As := [.ref h0, .int x1, .float (FP.fmul (FP.i2f x2) 1040187392), .ref qo]) C hP hD hS hK hl.1 (w_gale_bad l D h0 hn hd hq qo cZ cD cI cJ nb v ln go mw oL R.1 hl0 H.size x1 (FP.fmul (FP.i2f x2) 1040187392) hbad) (vx_cwSW 4 hts gL_law_L_gale rfl rfl rfl (by decide +kernel) ⟨Nat.le_of_ble_eq_true rfl, Nat.le_of_ble_eq_true rfl⟩) rfl dL_law_537 (by omega) (by omega) (fun H locs hP hD hS => ?_)
  refine lv_istore (lv' := [(6, .int (nI 1)), (5, .int (nI i)), (4, .ref qd), (3, .ref qo), (2, .ref k0), (1, .ref h0), (0, .ref b)]) hx hb dL_law_540 hl (by decide) rfl (fun ls hl => ?_)
  refine lv_aload_n hx hb dL_law_542 rfl (lv_at hl 4 rfl) ?_
  refine lv_aload_n hx hb dL_law_543 rfl (lv_at hl 6 rfl) ?_
  refine lv_iload hx hb dL_law_544 (lv_at hl 1 rfl) ?_
  refine lv_iconst (v := nI 1) hx hb dL_law_546 (by decide) ?_
  refine kn_iadd hx hb dL_law_547 ?_
  refine va_sld hx hb hX hbl hbA hS (sc_in (by omega) hL) dL_law_548 ?_
  refine kt_i (y := x1) h1 ?_
  refine lv_aload_n hx hb dL_law_549 rfl (lv_at hl 6 rfl) ?_
  refine lv_iload hx hb dL_law_550 (lv_at hl 1 rfl) ?_
  refine lv_iconst (v := nI 2) hx hb dL_law_552 (by decide) ?_
  refine kn_iadd hx hb dL_law_553 ?_
  refine va_sld hx hb hX hbl hbA hS (sc_in (by omega) hL) dL_law_554 ?_
  refine kt_i (y := x2) h2 ?_
  refine lv_i2f hx hb dL_law_555 ?_
  refine lv_ldcf hx hb hown hc_113 dL_law_556 ?_
  refine lv_fmul hx hb dL_law_558 (n32_of (mul_num32 _)) ?_
  refine lw_modi (As := [.int x1, .float (FP.fmul (FP.i2f x2) 1040187392)]) C hP hD hS hK hl.1 (c_X1_gale_bad l D k0 kv ko ks km kt kp kb cZ cD cI th mv io sz mk se pv pd go mw R.2.1 H.size x1 (FP.fmul (FP.i2f x2) 1040187392) (n64_of (by rw [FP.f2d_nan]; exact mul_num32 _)) (by rw [wnd_wnM (mul_num32 _)]; exact hbad)) (cwV 2 hts gL_law_X1_gale rfl rfl rfl (by decide +kernel) ⟨Nat.le_of_ble_eq_true rfl, Nat.le_of_ble_eq_true rfl⟩) rfl dL_law_559 (by omega) (by omega) (fun H locs hP hD hS => ?_)
  refine lv_istore (lv' := [(7, .int (b2i false)), (6, .int (nI 1)), (5, .int (nI i)), (4, .ref qd), (3, .ref qo), (2, .ref k0), (1, .ref h0), (0, .ref b)]) hx hb dL_law_562 hl (by decide) rfl (fun ls hl => ?_)
  refine lv_aload_n hx hb dL_law_564 rfl (lv_at hl 5 rfl) ?_
  refine lw_thrown (R).2.1 C hP hK hl.1 dL_law_565 (by omega) (by omega) ?_
  refine kt_i (y := nI 1) (rfl) ?_
  refine lv_iload hx hb dL_law_568 (lv_at hl 1 rfl) ?_
  refine kn_icmp_eq (tgt := 575) hx hb (by decide) (by decide) dL_law_570 (by decide) (fun _ => ?_) (fun h => absurd h (by decide))
  refine lv_iload hx hb dL_law_575 (lv_at hl 1 rfl) ?_
  refine kn_ne (tgt := 599) hx hb (by decide) dL_law_577 (by decide) (fun _ => ?_) (fun h => absurd h (by decide))
  refine lv_goto (tgt := 1745) hx hb dL_law_599 (by decide) ?_
  refine W.widen (k := cells + 6) (n := slots + 40) (by omega) (by omega) ?_
  exact N R hP hD hS (lv_sub hl [2, 3, 4, 5, 6, 7] rfl)
set_option maxHeartbeats 4000000 in
set_option maxRecDepth 100000 in
theorem cs_lift {g : Nat} (hg : g < 6) {k : Nat} (hk : k < 3) (h1 : xs (nI (i + 1)).toNatClampNeg = nI g) (h2 : xs (nI (i + 2)).toNatClampNeg = nI k) (R : Rl nb v ln io mv sz mk se pv pd) (C : LwC l p s m meth c b L xs) (hL : L ≤ 2560) (hi : i + 4 < L) (hK : va_K D vwCl (TYL cZ cD cI cJ) s) (hP : va_P D vwCl (WA h0 hn hd hq k0 kv ko ks km kt kp kb qo qd cZ cD cI cJ nb v ln go mw th mv io sz mk se pv pd go mw oL oD) H) (hD : va_D (fun q : Nat => s.heap.size ≤ q) (WA h0 hn hd hq k0 kv ko ks km kt kp kb qo qd cZ cD cI cJ nb v ln go mw th mv io sz mk se pv pd go mw oL oD)) (hS : va_S (fun q : Nat => s.heap.size ≤ q) s.heap H locs) (hl : lv_has ls 9 [(5, .int (nI i)), (4, .ref qd), (3, .ref qo), (2, .ref k0), (1, .ref h0), (0, .ref b)]) (hcc : cells + 6 ≤ 3101) (hss : slots + 40 ≤ 21269) (N : LwN p l e s m below meth c b Q D h0 hn hd hq k0 kv ko ks km kt kp kb qo qd cZ cD cI cJ i (cells + 6) (slots + 40)) : W p l e room_1 s m #[Value.ref b] below meth c H locs cells slots Q (F0 m 602 ls []) := by
  have C0 := C
  obtain ⟨hx, hb, hr, hml, hown, hts, hX, hbl, hlocks, hl0, hZ, hxS, hxD, hxN⟩ := C0
  have hbA : ¬ (fun q : Nat => s.heap.size ≤ q) b := Nat.not_le.mpr hbl
  have hcm : room_1.cells = 3101 := rfl
  have hsm : room_1.slots = 21269 := rfl
  refine lv_aload_n hx hb dL_law_602 rfl (lv_at hl 4 rfl) ?_
  refine lv_aload_n hx hb dL_law_603 rfl (lv_at hl 5 rfl) ?_
  refine lv_iload hx hb dL_law_604 (lv_at hl 0 rfl) ?_
  refine lv_iconst (v := nI 1) hx hb dL_law_606 (by decide) ?_
  refine kn_iadd hx hb dL_law_607 ?_
  refine va_sld hx hb hX hbl hbA hS (sc_in (by omega) hL) dL_law_608 ?_
  refine kt_i (y := nI g) h1 ?_
  refine lv_aload_n hx hb dL_law_609 rfl (lv_at hl 5 rfl) ?_
  refine lv_iload hx hb dL_law_610 (lv_at hl 0 rfl) ?_
  refine lv_iconst (v := nI 2) hx hb dL_law_612 (by decide) ?_
  refine kn_iadd hx hb dL_law_613 ?_
  refine va_sld hx hb hX hbl hbA hS (sc_in (by omega) hL) dL_law_614 ?_
  refine kt_i (y := nI k) h2 ?_
  refine lv_aload_n hx hb dL_law_615 rfl (lv_at hl 2 rfl) ?_
  refine lw_wrapL (As := [.ref h0, .int (nI g), .int (nI k), .ref qo]) C hP hD hS hK hl.1 (w_lift l D h0 hn hd hq qo cZ cD cI cJ nb v ln go mw oL R.1 hl0 H.size g k hg hk) (vx_cwSW 4 hts gL_law_L_lift rfl rfl rfl (by decide +kernel) ⟨Nat.le_of_ble_eq_true rfl, Nat.le_of_ble_eq_true rfl⟩) rfl dL_law_616 (by omega) (by omega) (fun H locs hP hD hS => ?_)
  refine lv_istore (lv' := [(6, .int (nI 0)), (5, .int (nI i)), (4, .ref qd), (3, .ref qo), (2, .ref k0), (1, .ref h0), (0, .ref b)]) hx hb dL_law_619 hl (by decide) rfl (fun ls hl => ?_)
  refine lv_aload_n hx hb dL_law_621 rfl (lv_at hl 4 rfl) ?_
  refine lv_aload_n hx hb dL_law_622 rfl (lv_at hl 6 rfl) ?_
  refine lv_iload hx hb dL_law_623 (lv_at hl 1 rfl) ?_
  refine lv_iconst (v := nI 1) hx hb dL_law_625 (by decide) ?_
  refine kn_iadd hx hb dL_law_626 ?_
  refine va_sld hx hb hX hbl hbA hS (sc_in (by omega) hL) dL_law_627 ?_
  refine kt_i (y := nI g) h1 ?_
  refine lv_aload_n hx hb dL_law_628 rfl (lv_at hl 6 rfl) ?_
  refine lv_iload hx hb dL_law_629 (lv_at hl 1 rfl) ?_
  refine lv_iconst (v := nI 2) hx hb dL_law_631 (by decide) ?_
  refine kn_iadd hx hb dL_law_632 ?_
  refine va_sld hx hb hX hbl hbA hS (sc_in (by omega) hL) dL_law_633 ?_
  refine kt_i (y := nI k) h2 ?_
  refine lw_modi (As := [.int (nI g), .int (nI k)]) C hP hD hS hK hl.1 (c_X1_lift l D k0 kv ko ks km kt kp kb cZ cD cI th mv io sz mk se pv pd go mw R.2.1 H.size g k hg hk) (cwV 2 hts gL_law_X1_lift rfl rfl rfl (by decide +kernel) ⟨Nat.le_of_ble_eq_true rfl, Nat.le_of_ble_eq_true rfl⟩) rfl dL_law_634 (by omega) (by omega) (fun H locs hP hD hS => ?_)
  refine lv_istore (lv' := [(7, .int (b2i (se (3 * g + k)))), (6, .int (nI 0)), (5, .int (nI i)), (4, .ref qd), (3, .ref qo), (2, .ref k0), (1, .ref h0), (0, .ref b)]) hx hb dL_law_637 hl (by decide) rfl (fun ls hl => ?_)
  refine lv_aload_n hx hb dL_law_639 rfl (lv_at hl 5 rfl) ?_
  refine lw_thrown (R.mrk_f hg hk FP.dconst0).2.1 C hP hK hl.1 dL_law_640 (by omega) (by omega) ?_
  refine kt_i (y := nI 0) (rfl) ?_
  refine lv_iload hx hb dL_law_643 (lv_at hl 1 rfl) ?_
  refine kn_icmp_eq (tgt := 650) hx hb (by decide) (by decide) dL_law_645 (by decide) (fun _ => ?_) (fun h => absurd h (by decide))
  refine lv_iload hx hb dL_law_650 (lv_at hl 1 rfl) ?_
  refine kn_ne (tgt := 674) hx hb (by decide) dL_law_652 (by decide) (fun h => absurd h (by decide)) (fun _ => ?_)
  refine lv_aload_n hx hb dL_law_655 rfl (lv_at hl 4 rfl) ?_
  refine lv_iconst (v := nI 0) hx hb dL_law_656 (by decide) ?_
  refine kn_lald hx hb hK hP 12 3 rfl rfl (by decide) (by decide) dL_law_657 ?_
  refine lv_iload hx hb dL_law_658 (lv_at hl 0 rfl) ?_
  refine kb_eq (tgt := 667) hx hb dL_law_660 (by decide) (fun c_1 => ?_) (fun c_1 => ?_)
  · refine lv_lconst (v := 0) hx hb dL_law_667 (by decide) ?_
    refine W.lcmp hx hb dL_law_668 ?_
    refine lv_if_eq (tgt := 674) hx hb dL_law_669 (by decide) (fun c_x => ?_) (fun h => absurd (lc_eq (by rw [up_s, ← R.was hg hk, c_1]; rfl)) h)
    refine lv_goto (tgt := 1745) hx hb dL_law_674 (by decide) ?_
    refine W.widen (k := cells + 6) (n := slots + 40) (by omega) (by omega) ?_
    exact N (R.mrk_f hg hk FP.dconst0) hP hD hS (lv_sub hl [2, 3, 4, 5, 6, 7] rfl)
  · refine lv_lconst (v := 1) hx hb dL_law_663 (by decide) ?_
    refine lv_goto (tgt := 668) hx hb dL_law_664 (by decide) ?_
    refine W.lcmp hx hb dL_law_668 ?_
    refine lv_if_eq (tgt := 674) hx hb dL_law_669 (by decide) (fun c_x => ?_) (fun h => absurd (lc_eq (by rw [up_s, ← R.was hg hk, c_1]; rfl)) h)
    refine lv_goto (tgt := 1745) hx hb dL_law_674 (by decide) ?_
    refine W.widen (k := cells + 6) (n := slots + 40) (by omega) (by omega) ?_
    exact N (R.mrk_f hg hk FP.dconst0) hP hD hS (lv_sub hl [2, 3, 4, 5, 6, 7] rfl)
set_option maxHeartbeats 4000000 in
set_option maxRecDepth 100000 in
theorem cs_lift_bad {x1 x2 : Int32} (hbad : ¬ (InN 6 x1 ∧ InN 3 x2)) (h1 : xs (nI (i + 1)).toNatClampNeg = x1) (h2 : xs (nI (i + 2)).toNatClampNeg = x2) (R : Rl nb v ln io mv sz mk se pv pd) (C : LwC l p s m meth c b L xs) (hL : L ≤ 2560) (hi : i + 4 < L) (hK : va_K D vwCl (TYL cZ cD cI cJ) s) (hP : va_P D vwCl (WA h0 hn hd hq k0 kv ko ks km kt kp kb qo qd cZ cD cI cJ nb v ln go mw th mv io sz mk se pv pd go mw oL oD) H) (hD : va_D (fun q : Nat => s.heap.size ≤ q) (WA h0 hn hd hq k0 kv ko ks km kt kp kb qo qd cZ cD cI cJ nb v ln go mw th mv io sz mk se pv pd go mw oL oD)) (hS : va_S (fun q : Nat => s.heap.size ≤ q) s.heap H locs) (hl : lv_has ls 9 [(5, .int (nI i)), (4, .ref qd), (3, .ref qo), (2, .ref k0), (1, .ref h0), (0, .ref b)]) (hcc : cells + 6 ≤ 3101) (hss : slots + 40 ≤ 21269) (N : LwN p l e s m below meth c b Q D h0 hn hd hq k0 kv ko ks km kt kp kb qo qd cZ cD cI cJ i (cells + 6) (slots + 40)) : W p l e room_1 s m #[Value.ref b] below meth c H locs cells slots Q (F0 m 602 ls []) := by
  have C0 := C
  obtain ⟨hx, hb, hr, hml, hown, hts, hX, hbl, hlocks, hl0, hZ, hxS, hxD, hxN⟩ := C0
  have hbA : ¬ (fun q : Nat => s.heap.size ≤ q) b := Nat.not_le.mpr hbl
  have hcm : room_1.cells = 3101 := rfl
  have hsm : room_1.slots = 21269 := rfl
  refine lv_aload_n hx hb dL_law_602 rfl (lv_at hl 4 rfl) ?_
  refine lv_aload_n hx hb dL_law_603 rfl (lv_at hl 5 rfl) ?_
  refine lv_iload hx hb dL_law_604 (lv_at hl 0 rfl) ?_
  refine lv_iconst (v := nI 1) hx hb dL_law_606 (by decide) ?_
  refine kn_iadd hx hb dL_law_607 ?_
  refine va_sld hx hb hX hbl hbA hS (sc_in (by omega) hL) dL_law_608 ?_
  refine kt_i (y := x1) h1 ?_
  refine lv_aload_n hx hb dL_law_609 rfl (lv_at hl 5 rfl) ?_
  refine lv_iload hx hb dL_law_610 (lv_at hl 0 rfl) ?_
  refine lv_iconst (v := nI 2) hx hb dL_law_612 (by decide) ?_
  refine kn_iadd hx hb dL_law_613 ?_
  refine va_sld hx hb hX hbl hbA hS (sc_in (by omega) hL) dL_law_614 ?_
  refine kt_i (y := x2) h2 ?_
  refine lv_aload_n hx hb dL_law_615 rfl (lv_at hl 2 rfl) ?_
  refine lw_wrapL (As := [.ref h0, .int x1, .int x2, .ref qo]) C hP hD hS hK hl.1 (w_lift_bad l D h0 hn hd hq qo cZ cD cI cJ nb v ln go mw oL R.1 hl0 H.size x1 x2 hbad) (vx_cwSW 4 hts gL_law_L_lift rfl rfl rfl (by decide +kernel) ⟨Nat.le_of_ble_eq_true rfl, Nat.le_of_ble_eq_true rfl⟩) rfl dL_law_616 (by omega) (by omega) (fun H locs hP hD hS => ?_)
  refine lv_istore (lv' := [(6, .int (nI 1)), (5, .int (nI i)), (4, .ref qd), (3, .ref qo), (2, .ref k0), (1, .ref h0), (0, .ref b)]) hx hb dL_law_619 hl (by decide) rfl (fun ls hl => ?_)
  refine lv_aload_n hx hb dL_law_621 rfl (lv_at hl 4 rfl) ?_
  refine lv_aload_n hx hb dL_law_622 rfl (lv_at hl 6 rfl) ?_
  refine lv_iload hx hb dL_law_623 (lv_at hl 1 rfl) ?_
  refine lv_iconst (v := nI 1) hx hb dL_law_625 (by decide) ?_
  refine kn_iadd hx hb dL_law_626 ?_
  refine va_sld hx hb hX hbl hbA hS (sc_in (by omega) hL) dL_law_627 ?_
  refine kt_i (y := x1) h1 ?_
  refine lv_aload_n hx hb dL_law_628 rfl (lv_at hl 6 rfl) ?_
  refine lv_iload hx hb dL_law_629 (lv_at hl 1 rfl) ?_
  refine lv_iconst (v := nI 2) hx hb dL_law_631 (by decide) ?_
  refine kn_iadd hx hb dL_law_632 ?_
  refine va_sld hx hb hX hbl hbA hS (sc_in (by omega) hL) dL_law_633 ?_
  refine kt_i (y := x2) h2 ?_
  refine lw_modi (As := [.int x1, .int x2]) C hP hD hS hK hl.1 (c_X1_lift_bad l D k0 kv ko ks km kt kp kb cZ cD cI th mv io sz mk se pv pd go mw R.2.1 H.size x1 x2 hbad) (cwV 2 hts gL_law_X1_lift rfl rfl rfl (by decide +kernel) ⟨Nat.le_of_ble_eq_true rfl, Nat.le_of_ble_eq_true rfl⟩) rfl dL_law_634 (by omega) (by omega) (fun H locs hP hD hS => ?_)
  refine lv_istore (lv' := [(7, .int (b2i false)), (6, .int (nI 1)), (5, .int (nI i)), (4, .ref qd), (3, .ref qo), (2, .ref k0), (1, .ref h0), (0, .ref b)]) hx hb dL_law_637 hl (by decide) rfl (fun ls hl => ?_)
  refine lv_aload_n hx hb dL_law_639 rfl (lv_at hl 5 rfl) ?_
  refine lw_thrown (R).2.1 C hP hK hl.1 dL_law_640 (by omega) (by omega) ?_
  refine kt_i (y := nI 1) (rfl) ?_
  refine lv_iload hx hb dL_law_643 (lv_at hl 1 rfl) ?_
  refine kn_icmp_eq (tgt := 650) hx hb (by decide) (by decide) dL_law_645 (by decide) (fun _ => ?_) (fun h => absurd h (by decide))
  refine lv_iload hx hb dL_law_650 (lv_at hl 1 rfl) ?_
  refine kn_ne (tgt := 674) hx hb (by decide) dL_law_652 (by decide) (fun _ => ?_) (fun h => absurd h (by decide))
  refine lv_goto (tgt := 1745) hx hb dL_law_674 (by decide) ?_
  refine W.widen (k := cells + 6) (n := slots + 40) (by omega) (by omega) ?_
  exact N R hP hD hS (lv_sub hl [2, 3, 4, 5, 6, 7] rfl)
set_option maxHeartbeats 4000000 in
set_option maxRecDepth 100000 in
theorem cs_probe {x1 : Int32} (hlv : lvl (FP.dmul (FP.i2d x1) 4593671619917905920) = true) (h1 : xs (nI (i + 1)).toNatClampNeg = x1) (R : Rl nb v ln io mv sz mk se pv pd) (C : LwC l p s m meth c b L xs) (hL : L ≤ 2560) (hi : i + 4 < L) (hK : va_K D vwCl (TYL cZ cD cI cJ) s) (hP : va_P D vwCl (WA h0 hn hd hq k0 kv ko ks km kt kp kb qo qd cZ cD cI cJ nb v ln go mw th mv io sz mk se pv pd go mw oL oD) H) (hD : va_D (fun q : Nat => s.heap.size ≤ q) (WA h0 hn hd hq k0 kv ko ks km kt kp kb qo qd cZ cD cI cJ nb v ln go mw th mv io sz mk se pv pd go mw oL oD)) (hS : va_S (fun q : Nat => s.heap.size ≤ q) s.heap H locs) (hl : lv_has ls 9 [(5, .int (nI i)), (4, .ref qd), (3, .ref qo), (2, .ref k0), (1, .ref h0), (0, .ref b)]) (hcc : cells + 6 ≤ 3101) (hss : slots + 40 ≤ 21269) (N : LwN p l e s m below meth c b Q D h0 hn hd hq k0 kv ko ks km kt kp kb qo qd cZ cD cI cJ i (cells + 6) (slots + 40)) : W p l e room_1 s m #[Value.ref b] below meth c H locs cells slots Q (F0 m 677 ls []) := by
  have C0 := C
  obtain ⟨hx, hb, hr, hml, hown, hts, hX, hbl, hlocks, hl0, hZ, hxS, hxD, hxN⟩ := C0
  have hbA : ¬ (fun q : Nat => s.heap.size ≤ q) b := Nat.not_le.mpr hbl
  have hcm : room_1.cells = 3101 := rfl
  have hsm : room_1.slots = 21269 := rfl
  have hc_101 := hts (.constantDouble RL 101 4593671619917905920) (by decide +kernel)
  refine lv_aload_n hx hb dL_law_677 rfl (lv_at hl 4 rfl) ?_
  refine lv_aload_n hx hb dL_law_678 rfl (lv_at hl 5 rfl) ?_
  refine lv_iload hx hb dL_law_679 (lv_at hl 0 rfl) ?_
  refine lv_iconst (v := nI 1) hx hb dL_law_681 (by decide) ?_
  refine kn_iadd hx hb dL_law_682 ?_
  refine va_sld hx hb hX hbl hbA hS (sc_in (by omega) hL) dL_law_683 ?_
  refine kt_i (y := x1) h1 ?_
  refine lv_i2d hx hb dL_law_684 ?_
  refine lv_ldc2d hx hb hown hc_101 dL_law_685 ?_
  refine lv_dmul hx hb dL_law_688 (n64_of (mul_num _)) ?_
  refine lv_aload_n hx hb dL_law_689 rfl (lv_at hl 2 rfl) ?_
  refine lw_wrapL (As := [.ref h0, .double (FP.dmul (FP.i2d x1) 4593671619917905920), .ref qo]) C hP hD hS hK hl.1 (w_probe l D h0 hn hd hq qo cZ cD cI cJ nb v ln go mw oL R.1 hl0 H.size (FP.dmul (FP.i2d x1) 4593671619917905920) hlv) (vx_cwSW 3 hts gL_law_L_probe rfl rfl rfl (by decide +kernel) ⟨Nat.le_of_ble_eq_true rfl, Nat.le_of_ble_eq_true rfl⟩) rfl dL_law_690 (by omega) (by omega) (fun H locs hP hD hS => ?_)
  refine lv_istore (lv' := [(6, .int (nI 0)), (5, .int (nI i)), (4, .ref qd), (3, .ref qo), (2, .ref k0), (1, .ref h0), (0, .ref b)]) hx hb dL_law_693 hl (by decide) rfl (fun ls hl => ?_)
  refine lv_aload_n hx hb dL_law_695 rfl (lv_at hl 4 rfl) ?_
  refine lv_aload_n hx hb dL_law_696 rfl (lv_at hl 6 rfl) ?_
  refine lv_iload hx hb dL_law_697 (lv_at hl 1 rfl) ?_
  refine lv_iconst (v := nI 1) hx hb dL_law_699 (by decide) ?_
  refine kn_iadd hx hb dL_law_700 ?_
  refine va_sld hx hb hX hbl hbA hS (sc_in (by omega) hL) dL_law_701 ?_
  refine kt_i (y := x1) h1 ?_
  refine lv_i2d hx hb dL_law_702 ?_
  refine lv_ldc2d hx hb hown hc_101 dL_law_703 ?_
  refine lv_dmul hx hb dL_law_706 (n64_of (mul_num _)) ?_
  refine lw_modi (As := [.double (FP.dmul (FP.i2d x1) 4593671619917905920)]) C hP hD hS hK hl.1 (c_X1_probe l D k0 kv ko ks km kt kp kb cZ cD cI th mv io sz mk se pv pd go mw R.2.1 H.size (FP.dmul (FP.i2d x1) 4593671619917905920) hlv) (cwV 1 hts gL_law_X1_probe rfl rfl rfl (by decide +kernel) ⟨Nat.le_of_ble_eq_true rfl, Nat.le_of_ble_eq_true rfl⟩) rfl dL_law_707 (by omega) (by omega) (fun H locs hP hD hS => ?_)
  refine lv_istore (lv' := [(7, .int (nI (cn (fun g => isW 4 (wy (lo io sz (2 * g + 0) || !true) (lw mv sz (2 * g + 0)) (FP.dmul (FP.i2d x1) 4593671619917905920))) 6))), (6, .int (nI 0)), (5, .int (nI i)), (4, .ref qd), (3, .ref qo), (2, .ref k0), (1, .ref h0), (0, .ref b)]) hx hb dL_law_710 hl (by decide) rfl (fun ls hl => ?_)
  refine lv_aload_n hx hb dL_law_712 rfl (lv_at hl 5 rfl) ?_
  refine lw_thrown (R.prb_t (w := 0) (by omega) (lvl_num hlv)).2.1 C hP hK hl.1 dL_law_713 (by omega) (by omega) ?_
  refine kt_i (y := nI 0) (rfl) ?_
  refine lv_iload hx hb dL_law_716 (lv_at hl 1 rfl) ?_
  refine kn_icmp_eq (tgt := 723) hx hb (by decide) (by decide) dL_law_718 (by decide) (fun _ => ?_) (fun h => absurd h (by decide))
  refine lv_iload hx hb dL_law_723 (lv_at hl 1 rfl) ?_
  refine kn_ne (tgt := 740) hx hb (by decide) dL_law_725 (by decide) (fun h => absurd h (by decide)) (fun _ => ?_)
  refine lv_aload_n hx hb dL_law_728 rfl (lv_at hl 4 rfl) ?_
  refine lv_iconst (v := nI 0) hx hb dL_law_729 (by decide) ?_
  refine kn_lald hx hb hK hP 12 3 rfl rfl (by decide) (by decide) dL_law_730 ?_
  refine lv_iload hx hb dL_law_731 (lv_at hl 0 rfl) ?_
  refine lv_i2l hx hb dL_law_733 rfl ?_
  refine W.lcmp hx hb dL_law_734 ?_
  refine lv_if_eq (tgt := 740) hx hb dL_law_735 (by decide) (fun c_x => ?_) (fun h => absurd (lc_eq (by rw [up_s]; exact congrArg Int32.toInt64 (congrArg nI (R.prb_n (w := 0) (by omega) (by omega) (lvl_num hlv)).symm))) h)
  refine lv_goto (tgt := 1745) hx hb dL_law_740 (by decide) ?_
  refine W.widen (k := cells + 6) (n := slots + 40) (by omega) (by omega) ?_
  exact N (R.prb_t (w := 0) (by omega) (lvl_num hlv)) hP hD hS (lv_sub hl [2, 3, 4, 5, 6, 7] rfl)
set_option maxHeartbeats 4000000 in
set_option maxRecDepth 100000 in
theorem cs_probe_bad {x1 : Int32} (hbad : ¬ (lvl (FP.dmul (FP.i2d x1) 4593671619917905920) = true)) (h1 : xs (nI (i + 1)).toNatClampNeg = x1) (R : Rl nb v ln io mv sz mk se pv pd) (C : LwC l p s m meth c b L xs) (hL : L ≤ 2560) (hi : i + 4 < L) (hK : va_K D vwCl (TYL cZ cD cI cJ) s) (hP : va_P D vwCl (WA h0 hn hd hq k0 kv ko ks km kt kp kb qo qd cZ cD cI cJ nb v ln go mw th mv io sz mk se pv pd go mw oL oD) H) (hD : va_D (fun q : Nat => s.heap.size ≤ q) (WA h0 hn hd hq k0 kv ko ks km kt kp kb qo qd cZ cD cI cJ nb v ln go mw th mv io sz mk se pv pd go mw oL oD)) (hS : va_S (fun q : Nat => s.heap.size ≤ q) s.heap H locs) (hl : lv_has ls 9 [(5, .int (nI i)), (4, .ref qd), (3, .ref qo), (2, .ref k0), (1, .ref h0), (0, .ref b)]) (hcc : cells + 6 ≤ 3101) (hss : slots + 40 ≤ 21269) (N : LwN p l e s m below meth c b Q D h0 hn hd hq k0 kv ko ks km kt kp kb qo qd cZ cD cI cJ i (cells + 6) (slots + 40)) : W p l e room_1 s m #[Value.ref b] below meth c H locs cells slots Q (F0 m 677 ls []) := by
  have C0 := C
  obtain ⟨hx, hb, hr, hml, hown, hts, hX, hbl, hlocks, hl0, hZ, hxS, hxD, hxN⟩ := C0
  have hbA : ¬ (fun q : Nat => s.heap.size ≤ q) b := Nat.not_le.mpr hbl
  have hcm : room_1.cells = 3101 := rfl
  have hsm : room_1.slots = 21269 := rfl
  have hc_101 := hts (.constantDouble RL 101 4593671619917905920) (by decide +kernel)
  refine lv_aload_n hx hb dL_law_677 rfl (lv_at hl 4 rfl) ?_
  refine lv_aload_n hx hb dL_law_678 rfl (lv_at hl 5 rfl) ?_
  refine lv_iload hx hb dL_law_679 (lv_at hl 0 rfl) ?_
  refine lv_iconst (v := nI 1) hx hb dL_law_681 (by decide) ?_
  refine kn_iadd hx hb dL_law_682 ?_
  refine va_sld hx hb hX hbl hbA hS (sc_in (by omega) hL) dL_law_683 ?_
  refine kt_i (y := x1) h1 ?_
  refine lv_i2d hx hb dL_law_684 ?_
  refine lv_ldc2d hx hb hown hc_101 dL_law_685 ?_
  refine lv_dmul hx hb dL_law_688 (n64_of (mul_num _)) ?_
  refine lv_aload_n hx hb dL_law_689 rfl (lv_at hl 2 rfl) ?_
  refine lw_wrapL (As := [.ref h0, .double (FP.dmul (FP.i2d x1) 4593671619917905920), .ref qo]) C hP hD hS hK hl.1 (w_probe_bad l D h0 hn hd hq qo cZ cD cI cJ nb v ln go mw oL R.1 hl0 H.size (FP.dmul (FP.i2d x1) 4593671619917905920) hbad) (vx_cwSW 3 hts gL_law_L_probe rfl rfl rfl (by decide +kernel) ⟨Nat.le_of_ble_eq_true rfl, Nat.le_of_ble_eq_true rfl⟩) rfl dL_law_690 (by omega) (by omega) (fun H locs hP hD hS => ?_)
  refine lv_istore (lv' := [(6, .int (nI 1)), (5, .int (nI i)), (4, .ref qd), (3, .ref qo), (2, .ref k0), (1, .ref h0), (0, .ref b)]) hx hb dL_law_693 hl (by decide) rfl (fun ls hl => ?_)
  refine lv_aload_n hx hb dL_law_695 rfl (lv_at hl 4 rfl) ?_
  refine lv_aload_n hx hb dL_law_696 rfl (lv_at hl 6 rfl) ?_
  refine lv_iload hx hb dL_law_697 (lv_at hl 1 rfl) ?_
  refine lv_iconst (v := nI 1) hx hb dL_law_699 (by decide) ?_
  refine kn_iadd hx hb dL_law_700 ?_
  refine va_sld hx hb hX hbl hbA hS (sc_in (by omega) hL) dL_law_701 ?_
  refine kt_i (y := x1) h1 ?_
  refine lv_i2d hx hb dL_law_702 ?_
  refine lv_ldc2d hx hb hown hc_101 dL_law_703 ?_
  refine lv_dmul hx hb dL_law_706 (n64_of (mul_num _)) ?_
  refine lw_modi (As := [.double (FP.dmul (FP.i2d x1) 4593671619917905920)]) C hP hD hS hK hl.1 (c_X1_probe_bad l D k0 kv ko ks km kt kp kb cZ cD cI th mv io sz mk se pv pd go mw R.2.1 H.size (FP.dmul (FP.i2d x1) 4593671619917905920) hbad) (cwV 1 hts gL_law_X1_probe rfl rfl rfl (by decide +kernel) ⟨Nat.le_of_ble_eq_true rfl, Nat.le_of_ble_eq_true rfl⟩) rfl dL_law_707 (by omega) (by omega) (fun H locs hP hD hS => ?_)
  refine lv_istore (lv' := [(7, .int (nI 0)), (6, .int (nI 1)), (5, .int (nI i)), (4, .ref qd), (3, .ref qo), (2, .ref k0), (1, .ref h0), (0, .ref b)]) hx hb dL_law_710 hl (by decide) rfl (fun ls hl => ?_)
  refine lv_aload_n hx hb dL_law_712 rfl (lv_at hl 5 rfl) ?_
  refine lw_thrown (R).2.1 C hP hK hl.1 dL_law_713 (by omega) (by omega) ?_
  refine kt_i (y := nI 1) (rfl) ?_
  refine lv_iload hx hb dL_law_716 (lv_at hl 1 rfl) ?_
  refine kn_icmp_eq (tgt := 723) hx hb (by decide) (by decide) dL_law_718 (by decide) (fun _ => ?_) (fun h => absurd h (by decide))
  refine lv_iload hx hb dL_law_723 (lv_at hl 1 rfl) ?_
  refine kn_ne (tgt := 740) hx hb (by decide) dL_law_725 (by decide) (fun _ => ?_) (fun h => absurd h (by decide))
  refine lv_goto (tgt := 1745) hx hb dL_law_740 (by decide) ?_
  refine W.widen (k := cells + 6) (n := slots + 40) (by omega) (by omega) ?_
  exact N R hP hD hS (lv_sub hl [2, 3, 4, 5, 6, 7] rfl)
set_option maxHeartbeats 4000000 in
set_option maxRecDepth 100000 in
theorem cs_probeWind {x1 : Int32} (hlv : wnd (FP.fmul (FP.i2f x1) 1040187392) = true) (h1 : xs (nI (i + 1)).toNatClampNeg = x1) (R : Rl nb v ln io mv sz mk se pv pd) (C : LwC l p s m meth c b L xs) (hL : L ≤ 2560) (hi : i + 4 < L) (hK : va_K D vwCl (TYL cZ cD cI cJ) s) (hP : va_P D vwCl (WA h0 hn hd hq k0 kv ko ks km kt kp kb qo qd cZ cD cI cJ nb v ln go mw th mv io sz mk se pv pd go mw oL oD) H) (hD : va_D (fun q : Nat => s.heap.size ≤ q) (WA h0 hn hd hq k0 kv ko ks km kt kp kb qo qd cZ cD cI cJ nb v ln go mw th mv io sz mk se pv pd go mw oL oD)) (hS : va_S (fun q : Nat => s.heap.size ≤ q) s.heap H locs) (hl : lv_has ls 9 [(5, .int (nI i)), (4, .ref qd), (3, .ref qo), (2, .ref k0), (1, .ref h0), (0, .ref b)]) (hcc : cells + 6 ≤ 3101) (hss : slots + 40 ≤ 21269) (N : LwN p l e s m below meth c b Q D h0 hn hd hq k0 kv ko ks km kt kp kb qo qd cZ cD cI cJ i (cells + 6) (slots + 40)) : W p l e room_1 s m #[Value.ref b] below meth c H locs cells slots Q (F0 m 743 ls []) := by
  have C0 := C
  obtain ⟨hx, hb, hr, hml, hown, hts, hX, hbl, hlocks, hl0, hZ, hxS, hxD, hxN⟩ := C0
  have hbA : ¬ (fun q : Nat => s.heap.size ≤ q) b := Nat.not_le.mpr hbl
  have hcm : room_1.cells = 3101 := rfl
  have hsm : room_1.slots = 21269 := rfl
  have hu : num (FP.f2d (FP.fmul (FP.i2f x1) 1040187392)) := (by show FP.dIsNaN _ = false; rw [FP.f2d_nan]; exact mul_num32 _)
  have hc_113 := hts (.constantFloat RL 113 1040187392) (by decide +kernel)
  refine lv_aload_n hx hb dL_law_743 rfl (lv_at hl 4 rfl) ?_
  refine lv_aload_n hx hb dL_law_744 rfl (lv_at hl 5 rfl) ?_
  refine lv_iload hx hb dL_law_745 (lv_at hl 0 rfl) ?_
  refine lv_iconst (v := nI 1) hx hb dL_law_747 (by decide) ?_
  refine kn_iadd hx hb dL_law_748 ?_
  refine va_sld hx hb hX hbl hbA hS (sc_in (by omega) hL) dL_law_749 ?_
  refine kt_i (y := x1) h1 ?_
  refine lv_i2f hx hb dL_law_750 ?_
  refine lv_ldcf hx hb hown hc_113 dL_law_751 ?_
  refine lv_fmul hx hb dL_law_753 (n32_of (mul_num32 _)) ?_
  refine lv_aload_n hx hb dL_law_754 rfl (lv_at hl 2 rfl) ?_
  refine lw_wrapL (As := [.ref h0, .float (FP.fmul (FP.i2f x1) 1040187392), .ref qo]) C hP hD hS hK hl.1 (w_probeWind l D h0 hn hd hq qo cZ cD cI cJ nb v ln go mw oL R.1 hl0 H.size (FP.fmul (FP.i2f x1) 1040187392) hlv) (vx_cwSW 3 hts gL_law_L_probeWind rfl rfl rfl (by decide +kernel) ⟨Nat.le_of_ble_eq_true rfl, Nat.le_of_ble_eq_true rfl⟩) rfl dL_law_755 (by omega) (by omega) (fun H locs hP hD hS => ?_)
  refine lv_istore (lv' := [(6, .int (nI 0)), (5, .int (nI i)), (4, .ref qd), (3, .ref qo), (2, .ref k0), (1, .ref h0), (0, .ref b)]) hx hb dL_law_758 hl (by decide) rfl (fun ls hl => ?_)
  refine lv_aload_n hx hb dL_law_760 rfl (lv_at hl 4 rfl) ?_
  refine lv_aload_n hx hb dL_law_761 rfl (lv_at hl 6 rfl) ?_
  refine lv_iload hx hb dL_law_762 (lv_at hl 1 rfl) ?_
  refine lv_iconst (v := nI 1) hx hb dL_law_764 (by decide) ?_
  refine kn_iadd hx hb dL_law_765 ?_
  refine va_sld hx hb hX hbl hbA hS (sc_in (by omega) hL) dL_law_766 ?_
  refine kt_i (y := x1) h1 ?_
  refine lv_i2f hx hb dL_law_767 ?_
  refine lv_ldcf hx hb hown hc_113 dL_law_768 ?_
  refine lv_fmul hx hb dL_law_770 (n32_of (mul_num32 _)) ?_
  refine lw_modi (As := [.float (FP.fmul (FP.i2f x1) 1040187392)]) C hP hD hS hK hl.1 (c_X1_probeWind l D k0 kv ko ks km kt kp kb cZ cD cI th mv io sz mk se pv pd go mw R.2.1 H.size (FP.fmul (FP.i2f x1) 1040187392) (n64_of (by rw [FP.f2d_nan]; exact mul_num32 _)) (by rw [wnd_wnM (mul_num32 _)]; exact hlv)) (cwV 1 hts gL_law_X1_probeWind rfl rfl rfl (by decide +kernel) ⟨Nat.le_of_ble_eq_true rfl, Nat.le_of_ble_eq_true rfl⟩) rfl dL_law_771 (by omega) (by omega) (fun H locs hP hD hS => ?_)
  refine lv_istore (lv' := [(7, .int (nI (cn (fun g => isW 4 (wy (lo io sz (2 * g + 1) || !true) (lw mv sz (2 * g + 1)) (FP.f2d (FP.fmul (FP.i2f x1) 1040187392)))) 6))), (6, .int (nI 0)), (5, .int (nI i)), (4, .ref qd), (3, .ref qo), (2, .ref k0), (1, .ref h0), (0, .ref b)]) hx hb dL_law_774 hl (by decide) rfl (fun ls hl => ?_)
  refine lv_aload_n hx hb dL_law_776 rfl (lv_at hl 5 rfl) ?_
  refine lw_thrown (R.prb_t (w := 1) (by omega) hu).2.1 C hP hK hl.1 dL_law_777 (by omega) (by omega) ?_
  refine kt_i (y := nI 0) (rfl) ?_
  refine lv_iload hx hb dL_law_780 (lv_at hl 1 rfl) ?_
  refine kn_icmp_eq (tgt := 787) hx hb (by decide) (by decide) dL_law_782 (by decide) (fun _ => ?_) (fun h => absurd h (by decide))
  refine lv_iload hx hb dL_law_787 (lv_at hl 1 rfl) ?_
  refine kn_ne (tgt := 804) hx hb (by decide) dL_law_789 (by decide) (fun h => absurd h (by decide)) (fun _ => ?_)
  refine lv_aload_n hx hb dL_law_792 rfl (lv_at hl 4 rfl) ?_
  refine lv_iconst (v := nI 0) hx hb dL_law_793 (by decide) ?_
  refine kn_lald hx hb hK hP 12 3 rfl rfl (by decide) (by decide) dL_law_794 ?_
  refine lv_iload hx hb dL_law_795 (lv_at hl 0 rfl) ?_
  refine lv_i2l hx hb dL_law_797 rfl ?_
  refine W.lcmp hx hb dL_law_798 ?_
  refine lv_if_eq (tgt := 804) hx hb dL_law_799 (by decide) (fun c_x => ?_) (fun h => absurd (lc_eq (by rw [up_s]; exact congrArg Int32.toInt64 (congrArg nI (R.prb_n (w := 1) (by omega) (by omega) hu).symm))) h)
  refine lv_goto (tgt := 1745) hx hb dL_law_804 (by decide) ?_
  refine W.widen (k := cells + 6) (n := slots + 40) (by omega) (by omega) ?_
  exact N (R.prb_t (w := 1) (by omega) hu) hP hD hS (lv_sub hl [2, 3, 4, 5, 6, 7] rfl)
set_option maxHeartbeats 4000000 in
set_option maxRecDepth 100000 in
theorem cs_probeWind_bad {x1 : Int32} (hbad : ¬ (wnd (FP.fmul (FP.i2f x1) 1040187392) = true)) (h1 : xs (nI (i + 1)).toNatClampNeg = x1) (R : Rl nb v ln io mv sz mk se pv pd) (C : LwC l p s m meth c b L xs) (hL : L ≤ 2560) (hi : i + 4 < L) (hK : va_K D vwCl (TYL cZ cD cI cJ) s) (hP : va_P D vwCl (WA h0 hn hd hq k0 kv ko ks km kt kp kb qo qd cZ cD cI cJ nb v ln go mw th mv io sz mk se pv pd go mw oL oD) H) (hD : va_D (fun q : Nat => s.heap.size ≤ q) (WA h0 hn hd hq k0 kv ko ks km kt kp kb qo qd cZ cD cI cJ nb v ln go mw th mv io sz mk se pv pd go mw oL oD)) (hS : va_S (fun q : Nat => s.heap.size ≤ q) s.heap H locs) (hl : lv_has ls 9 [(5, .int (nI i)), (4, .ref qd), (3, .ref qo), (2, .ref k0), (1, .ref h0), (0, .ref b)]) (hcc : cells + 6 ≤ 3101) (hss : slots + 40 ≤ 21269) (N : LwN p l e s m below meth c b Q D h0 hn hd hq k0 kv ko ks km kt kp kb qo qd cZ cD cI cJ i (cells + 6) (slots + 40)) : W p l e room_1 s m #[Value.ref b] below meth c H locs cells slots Q (F0 m 743 ls []) := by
  have C0 := C
  obtain ⟨hx, hb, hr, hml, hown, hts, hX, hbl, hlocks, hl0, hZ, hxS, hxD, hxN⟩ := C0
  have hbA : ¬ (fun q : Nat => s.heap.size ≤ q) b := Nat.not_le.mpr hbl
  have hcm : room_1.cells = 3101 := rfl
  have hsm : room_1.slots = 21269 := rfl
  have hc_113 := hts (.constantFloat RL 113 1040187392) (by decide +kernel)
  refine lv_aload_n hx hb dL_law_743 rfl (lv_at hl 4 rfl) ?_
  refine lv_aload_n hx hb dL_law_744 rfl (lv_at hl 5 rfl) ?_
  refine lv_iload hx hb dL_law_745 (lv_at hl 0 rfl) ?_
  refine lv_iconst (v := nI 1) hx hb dL_law_747 (by decide) ?_
  refine kn_iadd hx hb dL_law_748 ?_
  refine va_sld hx hb hX hbl hbA hS (sc_in (by omega) hL) dL_law_749 ?_
  refine kt_i (y := x1) h1 ?_
  refine lv_i2f hx hb dL_law_750 ?_
  refine lv_ldcf hx hb hown hc_113 dL_law_751 ?_
  refine lv_fmul hx hb dL_law_753 (n32_of (mul_num32 _)) ?_
  refine lv_aload_n hx hb dL_law_754 rfl (lv_at hl 2 rfl) ?_
  refine lw_wrapL (As := [.ref h0, .float (FP.fmul (FP.i2f x1) 1040187392), .ref qo]) C hP hD hS hK hl.1 (w_probeWind_bad l D h0 hn hd hq qo cZ cD cI cJ nb v ln go mw oL R.1 hl0 H.size (FP.fmul (FP.i2f x1) 1040187392) hbad) (vx_cwSW 3 hts gL_law_L_probeWind rfl rfl rfl (by decide +kernel) ⟨Nat.le_of_ble_eq_true rfl, Nat.le_of_ble_eq_true rfl⟩) rfl dL_law_755 (by omega) (by omega) (fun H locs hP hD hS => ?_)
  refine lv_istore (lv' := [(6, .int (nI 1)), (5, .int (nI i)), (4, .ref qd), (3, .ref qo), (2, .ref k0), (1, .ref h0), (0, .ref b)]) hx hb dL_law_758 hl (by decide) rfl (fun ls hl => ?_)
  refine lv_aload_n hx hb dL_law_760 rfl (lv_at hl 4 rfl) ?_
  refine lv_aload_n hx hb dL_law_761 rfl (lv_at hl 6 rfl) ?_
  refine lv_iload hx hb dL_law_762 (lv_at hl 1 rfl) ?_
  refine lv_iconst (v := nI 1) hx hb dL_law_764 (by decide) ?_
  refine kn_iadd hx hb dL_law_765 ?_
  refine va_sld hx hb hX hbl hbA hS (sc_in (by omega) hL) dL_law_766 ?_
  refine kt_i (y := x1) h1 ?_
  refine lv_i2f hx hb dL_law_767 ?_
  refine lv_ldcf hx hb hown hc_113 dL_law_768 ?_
  refine lv_fmul hx hb dL_law_770 (n32_of (mul_num32 _)) ?_
  refine lw_modi (As := [.float (FP.fmul (FP.i2f x1) 1040187392)]) C hP hD hS hK hl.1 (c_X1_probeWind_bad l D k0 kv ko ks km kt kp kb cZ cD cI th mv io sz mk se pv pd go mw R.2.1 H.size (FP.fmul (FP.i2f x1) 1040187392) (n64_of (by rw [FP.f2d_nan]; exact mul_num32 _)) (by rw [wnd_wnM (mul_num32 _)]; exact hbad)) (cwV 1 hts gL_law_X1_probeWind rfl rfl rfl (by decide +kernel) ⟨Nat.le_of_ble_eq_true rfl, Nat.le_of_ble_eq_true rfl⟩) rfl dL_law_771 (by omega) (by omega) (fun H locs hP hD hS => ?_)
  refine lv_istore (lv' := [(7, .int (nI 0)), (6, .int (nI 1)), (5, .int (nI i)), (4, .ref qd), (3, .ref qo), (2, .ref k0), (1, .ref h0), (0, .ref b)]) hx hb dL_law_774 hl (by decide) rfl (fun ls hl => ?_)
  refine lv_aload_n hx hb dL_law_776 rfl (lv_at hl 5 rfl) ?_
  refine lw_thrown (R).2.1 C hP hK hl.1 dL_law_777 (by omega) (by omega) ?_
  refine kt_i (y := nI 1) (rfl) ?_
  refine lv_iload hx hb dL_law_780 (lv_at hl 1 rfl) ?_
  refine kn_icmp_eq (tgt := 787) hx hb (by decide) (by decide) dL_law_782 (by decide) (fun _ => ?_) (fun h => absurd h (by decide))
  refine lv_iload hx hb dL_law_787 (lv_at hl 1 rfl) ?_
  refine kn_ne (tgt := 804) hx hb (by decide) dL_law_789 (by decide) (fun _ => ?_) (fun h => absurd h (by decide))
  refine lv_goto (tgt := 1745) hx hb dL_law_804 (by decide) ?_
  refine W.widen (k := cells + 6) (n := slots + 40) (by omega) (by omega) ?_
  exact N R hP hD hS (lv_sub hl [2, 3, 4, 5, 6, 7] rfl)
set_option maxHeartbeats 4000000 in
set_option maxRecDepth 100000 in
theorem cs_probeOut {w : Nat} (hw : w < 2) (h1 : xs (nI (i + 1)).toNatClampNeg = nI w) (R : Rl nb v ln io mv sz mk se pv pd) (C : LwC l p s m meth c b L xs) (hL : L ≤ 2560) (hi : i + 4 < L) (hK : va_K D vwCl (TYL cZ cD cI cJ) s) (hP : va_P D vwCl (WA h0 hn hd hq k0 kv ko ks km kt kp kb qo qd cZ cD cI cJ nb v ln go mw th mv io sz mk se pv pd go mw oL oD) H) (hD : va_D (fun q : Nat => s.heap.size ≤ q) (WA h0 hn hd hq k0 kv ko ks km kt kp kb qo qd cZ cD cI cJ nb v ln go mw th mv io sz mk se pv pd go mw oL oD)) (hS : va_S (fun q : Nat => s.heap.size ≤ q) s.heap H locs) (hl : lv_has ls 9 [(5, .int (nI i)), (4, .ref qd), (3, .ref qo), (2, .ref k0), (1, .ref h0), (0, .ref b)]) (hcc : cells + 6 ≤ 3101) (hss : slots + 40 ≤ 21269) (N : LwN p l e s m below meth c b Q D h0 hn hd hq k0 kv ko ks km kt kp kb qo qd cZ cD cI cJ i (cells + 6) (slots + 40)) : W p l e room_1 s m #[Value.ref b] below meth c H locs cells slots Q (F0 m 807 ls []) := by
  have C0 := C
  obtain ⟨hx, hb, hr, hml, hown, hts, hX, hbl, hlocks, hl0, hZ, hxS, hxD, hxN⟩ := C0
  have hbA : ¬ (fun q : Nat => s.heap.size ≤ q) b := Nat.not_le.mpr hbl
  have hcm : room_1.cells = 3101 := rfl
  have hsm : room_1.slots = 21269 := rfl
  refine lv_aload_n hx hb dL_law_807 rfl (lv_at hl 4 rfl) ?_
  refine lv_aload_n hx hb dL_law_808 rfl (lv_at hl 5 rfl) ?_
  refine lv_iload hx hb dL_law_809 (lv_at hl 0 rfl) ?_
  refine lv_iconst (v := nI 1) hx hb dL_law_811 (by decide) ?_
  refine kn_iadd hx hb dL_law_812 ?_
  refine va_sld hx hb hX hbl hbA hS (sc_in (by omega) hL) dL_law_813 ?_
  refine kt_i (y := nI w) h1 ?_
  refine lv_aload_n hx hb dL_law_814 rfl (lv_at hl 2 rfl) ?_
  refine lw_wrapL (As := [.ref h0, .int (nI w), .ref qo]) C hP hD hS hK hl.1 (w_probeOut l D h0 hn hd hq qo cZ cD cI cJ nb v ln go mw oL R.1 hl0 H.size w hw) (vx_cwSW 3 hts gL_law_L_probeOut rfl rfl rfl (by decide +kernel) ⟨Nat.le_of_ble_eq_true rfl, Nat.le_of_ble_eq_true rfl⟩) rfl dL_law_815 (by omega) (by omega) (fun H locs hP hD hS => ?_)
  refine lv_istore (lv' := [(6, .int (nI 0)), (5, .int (nI i)), (4, .ref qd), (3, .ref qo), (2, .ref k0), (1, .ref h0), (0, .ref b)]) hx hb dL_law_818 hl (by decide) rfl (fun ls hl => ?_)
  refine lv_aload_n hx hb dL_law_820 rfl (lv_at hl 4 rfl) ?_
  refine lv_aload_n hx hb dL_law_821 rfl (lv_at hl 6 rfl) ?_
  refine lv_iload hx hb dL_law_822 (lv_at hl 1 rfl) ?_
  refine lv_iconst (v := nI 1) hx hb dL_law_824 (by decide) ?_
  refine kn_iadd hx hb dL_law_825 ?_
  refine va_sld hx hb hX hbl hbA hS (sc_in (by omega) hL) dL_law_826 ?_
  refine kt_i (y := nI w) h1 ?_
  refine lw_modi (As := [.int (nI w)]) C hP hD hS hK hl.1 (c_X1_probeOut l D k0 kv ko ks km kt kp kb cZ cD cI th mv io sz mk se pv pd go mw R.2.1 H.size w hw) (cwV 1 hts gL_law_X1_probeOut rfl rfl rfl (by decide +kernel) ⟨Nat.le_of_ble_eq_true rfl, Nat.le_of_ble_eq_true rfl⟩) rfl dL_law_827 (by omega) (by omega) (fun H locs hP hD hS => ?_)
  refine lv_istore (lv' := [(7, .int (nI (cn (fun g => isW 5 (wy (lo io sz (2 * g + w) || !false) (lw mv sz (2 * g + w)) FP.dconst0)) 6))), (6, .int (nI 0)), (5, .int (nI i)), (4, .ref qd), (3, .ref qo), (2, .ref k0), (1, .ref h0), (0, .ref b)]) hx hb dL_law_830 hl (by decide) rfl (fun ls hl => ?_)
  refine lv_aload_n hx hb dL_law_832 rfl (lv_at hl 5 rfl) ?_
  refine lw_thrown (R.prb_f hw FP.dconst0).2.1 C hP hK hl.1 dL_law_833 (by omega) (by omega) ?_
  refine kt_i (y := nI 0) (rfl) ?_
  refine lv_iload hx hb dL_law_836 (lv_at hl 1 rfl) ?_
  refine kn_icmp_eq (tgt := 843) hx hb (by decide) (by decide) dL_law_838 (by decide) (fun _ => ?_) (fun h => absurd h (by decide))
  refine lv_iload hx hb dL_law_843 (lv_at hl 1 rfl) ?_
  refine kn_ne (tgt := 860) hx hb (by decide) dL_law_845 (by decide) (fun h => absurd h (by decide)) (fun _ => ?_)
  refine lv_aload_n hx hb dL_law_848 rfl (lv_at hl 4 rfl) ?_
  refine lv_iconst (v := nI 0) hx hb dL_law_849 (by decide) ?_
  refine kn_lald hx hb hK hP 12 3 rfl rfl (by decide) (by decide) dL_law_850 ?_
  refine lv_iload hx hb dL_law_851 (lv_at hl 0 rfl) ?_
  refine lv_i2l hx hb dL_law_853 rfl ?_
  refine W.lcmp hx hb dL_law_854 ?_
  refine lv_if_eq (tgt := 860) hx hb dL_law_855 (by decide) (fun c_x => ?_) (fun h => absurd (lc_eq (by rw [up_s]; exact congrArg Int32.toInt64 (congrArg nI (R.prb_m hw (by omega) _).symm))) h)
  refine lv_goto (tgt := 1745) hx hb dL_law_860 (by decide) ?_
  refine W.widen (k := cells + 6) (n := slots + 40) (by omega) (by omega) ?_
  exact N (R.prb_f hw FP.dconst0) hP hD hS (lv_sub hl [2, 3, 4, 5, 6, 7] rfl)
set_option maxHeartbeats 4000000 in
set_option maxRecDepth 100000 in
theorem cs_probeOut_bad {x1 : Int32} (hbad : ¬ (InN 2 x1)) (h1 : xs (nI (i + 1)).toNatClampNeg = x1) (R : Rl nb v ln io mv sz mk se pv pd) (C : LwC l p s m meth c b L xs) (hL : L ≤ 2560) (hi : i + 4 < L) (hK : va_K D vwCl (TYL cZ cD cI cJ) s) (hP : va_P D vwCl (WA h0 hn hd hq k0 kv ko ks km kt kp kb qo qd cZ cD cI cJ nb v ln go mw th mv io sz mk se pv pd go mw oL oD) H) (hD : va_D (fun q : Nat => s.heap.size ≤ q) (WA h0 hn hd hq k0 kv ko ks km kt kp kb qo qd cZ cD cI cJ nb v ln go mw th mv io sz mk se pv pd go mw oL oD)) (hS : va_S (fun q : Nat => s.heap.size ≤ q) s.heap H locs) (hl : lv_has ls 9 [(5, .int (nI i)), (4, .ref qd), (3, .ref qo), (2, .ref k0), (1, .ref h0), (0, .ref b)]) (hcc : cells + 6 ≤ 3101) (hss : slots + 40 ≤ 21269) (N : LwN p l e s m below meth c b Q D h0 hn hd hq k0 kv ko ks km kt kp kb qo qd cZ cD cI cJ i (cells + 6) (slots + 40)) : W p l e room_1 s m #[Value.ref b] below meth c H locs cells slots Q (F0 m 807 ls []) := by
  have C0 := C
  obtain ⟨hx, hb, hr, hml, hown, hts, hX, hbl, hlocks, hl0, hZ, hxS, hxD, hxN⟩ := C0
  have hbA : ¬ (fun q : Nat => s.heap.size ≤ q) b := Nat.not_le.mpr hbl
  have hcm : room_1.cells = 3101 := rfl
  have hsm : room_1.slots = 21269 := rfl
  refine lv_aload_n hx hb dL_law_807 rfl (lv_at hl 4 rfl) ?_
  refine lv_aload_n hx hb dL_law_808 rfl (lv_at hl 5 rfl) ?_
  refine lv_iload hx hb dL_law_809 (lv_at hl 0 rfl) ?_
  refine lv_iconst (v := nI 1) hx hb dL_law_811 (by decide) ?_
  refine kn_iadd hx hb dL_law_812 ?_
  refine va_sld hx hb hX hbl hbA hS (sc_in (by omega) hL) dL_law_813 ?_
  refine kt_i (y := x1) h1 ?_
  refine lv_aload_n hx hb dL_law_814 rfl (lv_at hl 2 rfl) ?_
  refine lw_wrapL (As := [.ref h0, .int x1, .ref qo]) C hP hD hS hK hl.1 (w_probeOut_bad l D h0 hn hd hq qo cZ cD cI cJ nb v ln go mw oL R.1 hl0 H.size x1 hbad) (vx_cwSW 3 hts gL_law_L_probeOut rfl rfl rfl (by decide +kernel) ⟨Nat.le_of_ble_eq_true rfl, Nat.le_of_ble_eq_true rfl⟩) rfl dL_law_815 (by omega) (by omega) (fun H locs hP hD hS => ?_)
  refine lv_istore (lv' := [(6, .int (nI 1)), (5, .int (nI i)), (4, .ref qd), (3, .ref qo), (2, .ref k0), (1, .ref h0), (0, .ref b)]) hx hb dL_law_818 hl (by decide) rfl (fun ls hl => ?_)
  refine lv_aload_n hx hb dL_law_820 rfl (lv_at hl 4 rfl) ?_
  refine lv_aload_n hx hb dL_law_821 rfl (lv_at hl 6 rfl) ?_
  refine lv_iload hx hb dL_law_822 (lv_at hl 1 rfl) ?_
  refine lv_iconst (v := nI 1) hx hb dL_law_824 (by decide) ?_
  refine kn_iadd hx hb dL_law_825 ?_
  refine va_sld hx hb hX hbl hbA hS (sc_in (by omega) hL) dL_law_826 ?_
  refine kt_i (y := x1) h1 ?_
  refine lw_modi (As := [.int x1]) C hP hD hS hK hl.1 (c_X1_probeOut_bad l D k0 kv ko ks km kt kp kb cZ cD cI th mv io sz mk se pv pd go mw R.2.1 H.size x1 hbad) (cwV 1 hts gL_law_X1_probeOut rfl rfl rfl (by decide +kernel) ⟨Nat.le_of_ble_eq_true rfl, Nat.le_of_ble_eq_true rfl⟩) rfl dL_law_827 (by omega) (by omega) (fun H locs hP hD hS => ?_)
  refine lv_istore (lv' := [(7, .int (nI 0)), (6, .int (nI 1)), (5, .int (nI i)), (4, .ref qd), (3, .ref qo), (2, .ref k0), (1, .ref h0), (0, .ref b)]) hx hb dL_law_830 hl (by decide) rfl (fun ls hl => ?_)
  refine lv_aload_n hx hb dL_law_832 rfl (lv_at hl 5 rfl) ?_
  refine lw_thrown (R).2.1 C hP hK hl.1 dL_law_833 (by omega) (by omega) ?_
  refine kt_i (y := nI 1) (rfl) ?_
  refine lv_iload hx hb dL_law_836 (lv_at hl 1 rfl) ?_
  refine kn_icmp_eq (tgt := 843) hx hb (by decide) (by decide) dL_law_838 (by decide) (fun _ => ?_) (fun h => absurd h (by decide))
  refine lv_iload hx hb dL_law_843 (lv_at hl 1 rfl) ?_
  refine kn_ne (tgt := 860) hx hb (by decide) dL_law_845 (by decide) (fun _ => ?_) (fun h => absurd h (by decide))
  refine lv_goto (tgt := 1745) hx hb dL_law_860 (by decide) ?_
  refine W.widen (k := cells + 6) (n := slots + 40) (by omega) (by omega) ?_
  exact N R hP hD hS (lv_sub hl [2, 3, 4, 5, 6, 7] rfl)
set_option maxHeartbeats 4000000 in
set_option maxRecDepth 100000 in
theorem cs_run_t {g : Nat} (hg : g < 6) {w : Nat} (hw : w < 2) {k : Nat} (hk : k < 6) {x4 : Int32} (hz : ¬ x4 = 0) (h1 : xs (nI (i + 1)).toNatClampNeg = nI g) (h2 : xs (nI (i + 2)).toNatClampNeg = nI w) (h3 : xs (nI (i + 3)).toNatClampNeg = nI k) (h4 : xs (nI (i + 4)).toNatClampNeg = x4) (R : Rl nb v ln io mv sz mk se pv pd) (C : LwC l p s m meth c b L xs) (hL : L ≤ 2560) (hi : i + 4 < L) (hK : va_K D vwCl (TYL cZ cD cI cJ) s) (hP : va_P D vwCl (WA h0 hn hd hq k0 kv ko ks km kt kp kb qo qd cZ cD cI cJ nb v ln go mw th mv io sz mk se pv pd go mw oL oD) H) (hD : va_D (fun q : Nat => s.heap.size ≤ q) (WA h0 hn hd hq k0 kv ko ks km kt kp kb qo qd cZ cD cI cJ nb v ln go mw th mv io sz mk se pv pd go mw oL oD)) (hS : va_S (fun q : Nat => s.heap.size ≤ q) s.heap H locs) (hl : lv_has ls 9 [(5, .int (nI i)), (4, .ref qd), (3, .ref qo), (2, .ref k0), (1, .ref h0), (0, .ref b)]) (hcc : cells + 6 ≤ 3101) (hss : slots + 40 ≤ 21269) (N : LwN p l e s m below meth c b Q D h0 hn hd hq k0 kv ko ks km kt kp kb qo qd cZ cD cI cJ i (cells + 6) (slots + 40)) : W p l e room_1 s m #[Value.ref b] below meth c H locs cells slots Q (F0 m 863 ls []) := by
  have C0 := C
  obtain ⟨hx, hb, hr, hml, hown, hts, hX, hbl, hlocks, hl0, hZ, hxS, hxD, hxN⟩ := C0
  have hbA : ¬ (fun q : Nat => s.heap.size ≤ q) b := Nat.not_le.mpr hbl
  have hcm : room_1.cells = 3101 := rfl
  have hsm : room_1.slots = 21269 := rfl
  refine lv_aload_n hx hb dL_law_863 rfl (lv_at hl 4 rfl) ?_
  refine lv_aload_n hx hb dL_law_864 rfl (lv_at hl 5 rfl) ?_
  refine lv_iload hx hb dL_law_865 (lv_at hl 0 rfl) ?_
  refine lv_iconst (v := nI 1) hx hb dL_law_867 (by decide) ?_
  refine kn_iadd hx hb dL_law_868 ?_
  refine va_sld hx hb hX hbl hbA hS (sc_in (by omega) hL) dL_law_869 ?_
  refine kt_i (y := nI g) h1 ?_
  refine lv_aload_n hx hb dL_law_870 rfl (lv_at hl 5 rfl) ?_
  refine lv_iload hx hb dL_law_871 (lv_at hl 0 rfl) ?_
  refine lv_iconst (v := nI 2) hx hb dL_law_873 (by decide) ?_
  refine kn_iadd hx hb dL_law_874 ?_
  refine va_sld hx hb hX hbl hbA hS (sc_in (by omega) hL) dL_law_875 ?_
  refine kt_i (y := nI w) h2 ?_
  refine lv_aload_n hx hb dL_law_876 rfl (lv_at hl 5 rfl) ?_
  refine lv_iload hx hb dL_law_877 (lv_at hl 0 rfl) ?_
  refine lv_iconst (v := nI 3) hx hb dL_law_879 (by decide) ?_
  refine kn_iadd hx hb dL_law_880 ?_
  refine va_sld hx hb hX hbl hbA hS (sc_in (by omega) hL) dL_law_881 ?_
  refine kt_i (y := nI k) h3 ?_
  refine lv_aload_n hx hb dL_law_882 rfl (lv_at hl 5 rfl) ?_
  refine lv_iload hx hb dL_law_883 (lv_at hl 0 rfl) ?_
  refine lv_iconst (v := nI 4) hx hb dL_law_885 (by decide) ?_
  refine kn_iadd hx hb dL_law_886 ?_
  refine va_sld hx hb hX hbl hbA hS (sc_in (by omega) hL) dL_law_887 ?_
  refine kt_i (y := x4) h4 ?_
  refine lv_if_eq (tgt := 895) hx hb dL_law_888 (by decide) (fun h => absurd h hz) (fun c_x => ?_)
  refine lv_iconst (v := nI 1) hx hb dL_law_891 (by decide) ?_
  refine kt_i (y := b2i true) (by decide) ?_
  refine lv_goto (tgt := 896) hx hb dL_law_892 (by decide) ?_
  refine lv_aload_n hx hb dL_law_896 rfl (lv_at hl 2 rfl) ?_
  refine lw_wrapL (As := [.ref h0, .int (nI g), .int (nI w), .int (nI k), .int (b2i true), .ref qo]) C hP hD hS hK hl.1 (w_run l D h0 hn hd hq qo cZ cD cI cJ nb v ln go mw oL R.1 hl0 H.size g w k true hg hw hk) (vx_cwSW 6 hts gL_law_L_run rfl rfl rfl (by decide +kernel) ⟨Nat.le_of_ble_eq_true rfl, Nat.le_of_ble_eq_true rfl⟩) rfl dL_law_897 (by omega) (by omega) (fun H locs hP hD hS => ?_)
  refine lv_istore (lv' := [(6, .int (nI 0)), (5, .int (nI i)), (4, .ref qd), (3, .ref qo), (2, .ref k0), (1, .ref h0), (0, .ref b)]) hx hb dL_law_900 hl (by decide) rfl (fun ls hl => ?_)
  refine lv_aload_n hx hb dL_law_902 rfl (lv_at hl 4 rfl) ?_
  refine lv_aload_n hx hb dL_law_903 rfl (lv_at hl 6 rfl) ?_
  refine lv_iload hx hb dL_law_904 (lv_at hl 1 rfl) ?_
  refine lv_iconst (v := nI 1) hx hb dL_law_906 (by decide) ?_
  refine kn_iadd hx hb dL_law_907 ?_
  refine va_sld hx hb hX hbl hbA hS (sc_in (by omega) hL) dL_law_908 ?_
  refine kt_i (y := nI g) h1 ?_
  refine lv_aload_n hx hb dL_law_909 rfl (lv_at hl 6 rfl) ?_
  refine lv_iload hx hb dL_law_910 (lv_at hl 1 rfl) ?_
  refine lv_iconst (v := nI 2) hx hb dL_law_912 (by decide) ?_
  refine kn_iadd hx hb dL_law_913 ?_
  refine va_sld hx hb hX hbl hbA hS (sc_in (by omega) hL) dL_law_914 ?_
  refine kt_i (y := nI w) h2 ?_
  refine lv_aload_n hx hb dL_law_915 rfl (lv_at hl 6 rfl) ?_
  refine lv_iload hx hb dL_law_916 (lv_at hl 1 rfl) ?_
  refine lv_iconst (v := nI 3) hx hb dL_law_918 (by decide) ?_
  refine kn_iadd hx hb dL_law_919 ?_
  refine va_sld hx hb hX hbl hbA hS (sc_in (by omega) hL) dL_law_920 ?_
  refine kt_i (y := nI k) h3 ?_
  refine lv_aload_n hx hb dL_law_921 rfl (lv_at hl 6 rfl) ?_
  refine lv_iload hx hb dL_law_922 (lv_at hl 1 rfl) ?_
  refine lv_iconst (v := nI 4) hx hb dL_law_924 (by decide) ?_
  refine kn_iadd hx hb dL_law_925 ?_
  refine va_sld hx hb hX hbl hbA hS (sc_in (by omega) hL) dL_law_926 ?_
  refine kt_i (y := x4) h4 ?_
  refine lv_if_eq (tgt := 934) hx hb dL_law_927 (by decide) (fun h => absurd h hz) (fun c_x => ?_)
  refine lv_iconst (v := nI 1) hx hb dL_law_930 (by decide) ?_
  refine kt_i (y := b2i true) (by decide) ?_
  refine lv_goto (tgt := 935) hx hb dL_law_931 (by decide) ?_
  refine lw_modi (As := [.int (nI g), .int (nI w), .int (nI k), .int (b2i true)]) C hP hD hS hK hl.1 (c_X1_run_true l D k0 kv ko ks km kt kp kb cZ cD cI th mv io sz mk se pv pd go mw R.2.1 H.size g w k hg hw hk) (cwV 4 hts gL_law_X1_run rfl rfl rfl (by decide +kernel) ⟨Nat.le_of_ble_eq_true rfl, Nat.le_of_ble_eq_true rfl⟩) rfl dL_law_935 (by omega) (by omega) (fun H locs hP hD hS => ?_)
  refine lv_istore (lv' := [(7, .int (nI (nq (fun j => !isW k (wy (io (12 * (2 * g + w) + (sz (2 * g + w) - 1 - j)) || !pd w) (mv (12 * (2 * g + w) + (sz (2 * g + w) - 1 - j))) (pv w))) (sz (2 * g + w))))), (6, .int (nI 0)), (5, .int (nI i)), (4, .ref qd), (3, .ref qo), (2, .ref k0), (1, .ref h0), (0, .ref b)]) hx hb dL_law_938 hl (by decide) rfl (fun ls hl => ?_)
  refine lv_aload_n hx hb dL_law_940 rfl (lv_at hl 5 rfl) ?_
  refine lw_thrown (R).2.1 C hP hK hl.1 dL_law_941 (by omega) (by omega) ?_
  refine kt_i (y := nI 0) (rfl) ?_
  refine lv_iload hx hb dL_law_944 (lv_at hl 1 rfl) ?_
  refine kn_icmp_eq (tgt := 951) hx hb (by decide) (by decide) dL_law_946 (by decide) (fun _ => ?_) (fun h => absurd h (by decide))
  refine lv_iload hx hb dL_law_951 (lv_at hl 1 rfl) ?_
  refine kn_ne (tgt := 968) hx hb (by decide) dL_law_953 (by decide) (fun h => absurd h (by decide)) (fun _ => ?_)
  refine lv_aload_n hx hb dL_law_956 rfl (lv_at hl 4 rfl) ?_
  refine lv_iconst (v := nI 0) hx hb dL_law_957 (by decide) ?_
  refine kn_lald hx hb hK hP 12 3 rfl rfl (by decide) (by decide) dL_law_958 ?_
  refine lv_iload hx hb dL_law_959 (lv_at hl 0 rfl) ?_
  refine lv_i2l hx hb dL_law_961 rfl ?_
  refine W.lcmp hx hb dL_law_962 ?_
  refine lv_if_eq (tgt := 968) hx hb dL_law_963 (by decide) (fun c_x => ?_) (fun h => absurd (lc_eq (by rw [up_s]; exact congrArg Int32.toInt64 (congrArg nI (R.run_t hg hw hk).symm))) h)
  refine lv_goto (tgt := 1745) hx hb dL_law_968 (by decide) ?_
  refine W.widen (k := cells + 6) (n := slots + 40) (by omega) (by omega) ?_
  exact N R hP hD hS (lv_sub hl [2, 3, 4, 5, 6, 7] rfl)
set_option maxHeartbeats 4000000 in
set_option maxRecDepth 100000 in
theorem cs_run_bad_t {x1 x2 x3 x4 : Int32} (hbad : ¬ (InN 6 x1 ∧ InN 2 x2 ∧ InN 6 x3)) (hz : ¬ x4 = 0) (h1 : xs (nI (i + 1)).toNatClampNeg = x1) (h2 : xs (nI (i + 2)).toNatClampNeg = x2) (h3 : xs (nI (i + 3)).toNatClampNeg = x3) (h4 : xs (nI (i + 4)).toNatClampNeg = x4) (R : Rl nb v ln io mv sz mk se pv pd) (C : LwC l p s m meth c b L xs) (hL : L ≤ 2560) (hi : i + 4 < L) (hK : va_K D vwCl (TYL cZ cD cI cJ) s) (hP : va_P D vwCl (WA h0 hn hd hq k0 kv ko ks km kt kp kb qo qd cZ cD cI cJ nb v ln go mw th mv io sz mk se pv pd go mw oL oD) H) (hD : va_D (fun q : Nat => s.heap.size ≤ q) (WA h0 hn hd hq k0 kv ko ks km kt kp kb qo qd cZ cD cI cJ nb v ln go mw th mv io sz mk se pv pd go mw oL oD)) (hS : va_S (fun q : Nat => s.heap.size ≤ q) s.heap H locs) (hl : lv_has ls 9 [(5, .int (nI i)), (4, .ref qd), (3, .ref qo), (2, .ref k0), (1, .ref h0), (0, .ref b)]) (hcc : cells + 6 ≤ 3101) (hss : slots + 40 ≤ 21269) (N : LwN p l e s m below meth c b Q D h0 hn hd hq k0 kv ko ks km kt kp kb qo qd cZ cD cI cJ i (cells + 6) (slots + 40)) : W p l e room_1 s m #[Value.ref b] below meth c H locs cells slots Q (F0 m 863 ls []) := by
  have C0 := C
  obtain ⟨hx, hb, hr, hml, hown, hts, hX, hbl, hlocks, hl0, hZ, hxS, hxD, hxN⟩ := C0
  have hbA : ¬ (fun q : Nat => s.heap.size ≤ q) b := Nat.not_le.mpr hbl
  have hcm : room_1.cells = 3101 := rfl
  have hsm : room_1.slots = 21269 := rfl
  refine lv_aload_n hx hb dL_law_863 rfl (lv_at hl 4 rfl) ?_
  refine lv_aload_n hx hb dL_law_864 rfl (lv_at hl 5 rfl) ?_
  refine lv_iload hx hb dL_law_865 (lv_at hl 0 rfl) ?_
  refine lv_iconst (v := nI 1) hx hb dL_law_867 (by decide) ?_
  refine kn_iadd hx hb dL_law_868 ?_
  refine va_sld hx hb hX hbl hbA hS (sc_in (by omega) hL) dL_law_869 ?_
  refine kt_i (y := x1) h1 ?_
  refine lv_aload_n hx hb dL_law_870 rfl (lv_at hl 5 rfl) ?_
  refine lv_iload hx hb dL_law_871 (lv_at hl 0 rfl) ?_
  refine lv_iconst (v := nI 2) hx hb dL_law_873 (by decide) ?_
  refine kn_iadd hx hb dL_law_874 ?_
  refine va_sld hx hb hX hbl hbA hS (sc_in (by omega) hL) dL_law_875 ?_
  refine kt_i (y := x2) h2 ?_
  refine lv_aload_n hx hb dL_law_876 rfl (lv_at hl 5 rfl) ?_
  refine lv_iload hx hb dL_law_877 (lv_at hl 0 rfl) ?_
  refine lv_iconst (v := nI 3) hx hb dL_law_879 (by decide) ?_
  refine kn_iadd hx hb dL_law_880 ?_
  refine va_sld hx hb hX hbl hbA hS (sc_in (by omega) hL) dL_law_881 ?_
  refine kt_i (y := x3) h3 ?_
  refine lv_aload_n hx hb dL_law_882 rfl (lv_at hl 5 rfl) ?_
  refine lv_iload hx hb dL_law_883 (lv_at hl 0 rfl) ?_
  refine lv_iconst (v := nI 4) hx hb dL_law_885 (by decide) ?_
  refine kn_iadd hx hb dL_law_886 ?_
  refine va_sld hx hb hX hbl hbA hS (sc_in (by omega) hL) dL_law_887 ?_
  refine kt_i (y := x4) h4 ?_
  refine lv_if_eq (tgt := 895) hx hb dL_law_888 (by decide) (fun h => absurd h hz) (fun c_x => ?_)
  refine lv_iconst (v := nI 1) hx hb dL_law_891 (by decide) ?_
  refine kt_i (y := b2i true) (by decide) ?_
  refine lv_goto (tgt := 896) hx hb dL_law_892 (by decide) ?_
  refine lv_aload_n hx hb dL_law_896 rfl (lv_at hl 2 rfl) ?_
  refine lw_wrapL (As := [.ref h0, .int x1, .int x2, .int x3, .int (b2i true), .ref qo]) C hP hD hS hK hl.1 (w_run_bad l D h0 hn hd hq qo cZ cD cI cJ nb v ln go mw oL R.1 hl0 H.size x1 x2 x3 true hbad) (vx_cwSW 6 hts gL_law_L_run rfl rfl rfl (by decide +kernel) ⟨Nat.le_of_ble_eq_true rfl, Nat.le_of_ble_eq_true rfl⟩) rfl dL_law_897 (by omega) (by omega) (fun H locs hP hD hS => ?_)
  refine lv_istore (lv' := [(6, .int (nI 1)), (5, .int (nI i)), (4, .ref qd), (3, .ref qo), (2, .ref k0), (1, .ref h0), (0, .ref b)]) hx hb dL_law_900 hl (by decide) rfl (fun ls hl => ?_)
  refine lv_aload_n hx hb dL_law_902 rfl (lv_at hl 4 rfl) ?_
  refine lv_aload_n hx hb dL_law_903 rfl (lv_at hl 6 rfl) ?_
  refine lv_iload hx hb dL_law_904 (lv_at hl 1 rfl) ?_
  refine lv_iconst (v := nI 1) hx hb dL_law_906 (by decide) ?_
  refine kn_iadd hx hb dL_law_907 ?_
  refine va_sld hx hb hX hbl hbA hS (sc_in (by omega) hL) dL_law_908 ?_
  refine kt_i (y := x1) h1 ?_
  refine lv_aload_n hx hb dL_law_909 rfl (lv_at hl 6 rfl) ?_
  refine lv_iload hx hb dL_law_910 (lv_at hl 1 rfl) ?_
  refine lv_iconst (v := nI 2) hx hb dL_law_912 (by decide) ?_
  refine kn_iadd hx hb dL_law_913 ?_
  refine va_sld hx hb hX hbl hbA hS (sc_in (by omega) hL) dL_law_914 ?_
  refine kt_i (y := x2) h2 ?_
  refine lv_aload_n hx hb dL_law_915 rfl (lv_at hl 6 rfl) ?_
  refine lv_iload hx hb dL_law_916 (lv_at hl 1 rfl) ?_
  refine lv_iconst (v := nI 3) hx hb dL_law_918 (by decide) ?_
  refine kn_iadd hx hb dL_law_919 ?_
  refine va_sld hx hb hX hbl hbA hS (sc_in (by omega) hL) dL_law_920 ?_
  refine kt_i (y := x3) h3 ?_
  refine lv_aload_n hx hb dL_law_921 rfl (lv_at hl 6 rfl) ?_
  refine lv_iload hx hb dL_law_922 (lv_at hl 1 rfl) ?_
  refine lv_iconst (v := nI 4) hx hb dL_law_924 (by decide) ?_
  refine kn_iadd hx hb dL_law_925 ?_
  refine va_sld hx hb hX hbl hbA hS (sc_in (by omega) hL) dL_law_926 ?_
  refine kt_i (y := x4) h4 ?_
  refine lv_if_eq (tgt := 934) hx hb dL_law_927 (by decide) (fun h => absurd h hz) (fun c_x => ?_)
  refine lv_iconst (v := nI 1) hx hb dL_law_930 (by decide) ?_
  refine kt_i (y := b2i true) (by decide) ?_
  refine lv_goto (tgt := 935) hx hb dL_law_931 (by decide) ?_
  refine lw_modi (As := [.int x1, .int x2, .int x3, .int (b2i true)]) C hP hD hS hK hl.1 (c_X1_run_bad l D k0 kv ko ks km kt kp kb cZ cD cI th mv io sz mk se pv pd go mw R.2.1 H.size x1 x2 x3 true hbad) (cwV 4 hts gL_law_X1_run rfl rfl rfl (by decide +kernel) ⟨Nat.le_of_ble_eq_true rfl, Nat.le_of_ble_eq_true rfl⟩) rfl dL_law_935 (by omega) (by omega) (fun H locs hP hD hS => ?_)
  refine lv_istore (lv' := [(7, .int (nI 0)), (6, .int (nI 1)), (5, .int (nI i)), (4, .ref qd), (3, .ref qo), (2, .ref k0), (1, .ref h0), (0, .ref b)]) hx hb dL_law_938 hl (by decide) rfl (fun ls hl => ?_)
  refine lv_aload_n hx hb dL_law_940 rfl (lv_at hl 5 rfl) ?_
  refine lw_thrown (R).2.1 C hP hK hl.1 dL_law_941 (by omega) (by omega) ?_
  refine kt_i (y := nI 1) (rfl) ?_
  refine lv_iload hx hb dL_law_944 (lv_at hl 1 rfl) ?_
  refine kn_icmp_eq (tgt := 951) hx hb (by decide) (by decide) dL_law_946 (by decide) (fun _ => ?_) (fun h => absurd h (by decide))
  refine lv_iload hx hb dL_law_951 (lv_at hl 1 rfl) ?_
  refine kn_ne (tgt := 968) hx hb (by decide) dL_law_953 (by decide) (fun _ => ?_) (fun h => absurd h (by decide))
  refine lv_goto (tgt := 1745) hx hb dL_law_968 (by decide) ?_
  refine W.widen (k := cells + 6) (n := slots + 40) (by omega) (by omega) ?_
  exact N R hP hD hS (lv_sub hl [2, 3, 4, 5, 6, 7] rfl)
set_option maxHeartbeats 4000000 in
set_option maxRecDepth 100000 in
theorem cs_count_t {g : Nat} (hg : g < 6) {w : Nat} (hw : w < 2) {k : Nat} (hk : k < 6) {x4 : Int32} (hz : ¬ x4 = 0) (h1 : xs (nI (i + 1)).toNatClampNeg = nI g) (h2 : xs (nI (i + 2)).toNatClampNeg = nI w) (h3 : xs (nI (i + 3)).toNatClampNeg = nI k) (h4 : xs (nI (i + 4)).toNatClampNeg = x4) (R : Rl nb v ln io mv sz mk se pv pd) (C : LwC l p s m meth c b L xs) (hL : L ≤ 2560) (hi : i + 4 < L) (hK : va_K D vwCl (TYL cZ cD cI cJ) s) (hP : va_P D vwCl (WA h0 hn hd hq k0 kv ko ks km kt kp kb qo qd cZ cD cI cJ nb v ln go mw th mv io sz mk se pv pd go mw oL oD) H) (hD : va_D (fun q : Nat => s.heap.size ≤ q) (WA h0 hn hd hq k0 kv ko ks km kt kp kb qo qd cZ cD cI cJ nb v ln go mw th mv io sz mk se pv pd go mw oL oD)) (hS : va_S (fun q : Nat => s.heap.size ≤ q) s.heap H locs) (hl : lv_has ls 9 [(5, .int (nI i)), (4, .ref qd), (3, .ref qo), (2, .ref k0), (1, .ref h0), (0, .ref b)]) (hcc : cells + 6 ≤ 3101) (hss : slots + 40 ≤ 21269) (N : LwN p l e s m below meth c b Q D h0 hn hd hq k0 kv ko ks km kt kp kb qo qd cZ cD cI cJ i (cells + 6) (slots + 40)) : W p l e room_1 s m #[Value.ref b] below meth c H locs cells slots Q (F0 m 971 ls []) := by
  have C0 := C
  obtain ⟨hx, hb, hr, hml, hown, hts, hX, hbl, hlocks, hl0, hZ, hxS, hxD, hxN⟩ := C0
  have hbA : ¬ (fun q : Nat => s.heap.size ≤ q) b := Nat.not_le.mpr hbl
  have hcm : room_1.cells = 3101 := rfl
  have hsm : room_1.slots = 21269 := rfl
  refine lv_aload_n hx hb dL_law_971 rfl (lv_at hl 4 rfl) ?_
  refine lv_aload_n hx hb dL_law_972 rfl (lv_at hl 5 rfl) ?_
  refine lv_iload hx hb dL_law_973 (lv_at hl 0 rfl) ?_
  refine lv_iconst (v := nI 1) hx hb dL_law_975 (by decide) ?_
  refine kn_iadd hx hb dL_law_976 ?_
  refine va_sld hx hb hX hbl hbA hS (sc_in (by omega) hL) dL_law_977 ?_
  refine kt_i (y := nI g) h1 ?_
  refine lv_aload_n hx hb dL_law_978 rfl (lv_at hl 5 rfl) ?_
  refine lv_iload hx hb dL_law_979 (lv_at hl 0 rfl) ?_
  refine lv_iconst (v := nI 2) hx hb dL_law_981 (by decide) ?_
  refine kn_iadd hx hb dL_law_982 ?_
  refine va_sld hx hb hX hbl hbA hS (sc_in (by omega) hL) dL_law_983 ?_
  refine kt_i (y := nI w) h2 ?_
  refine lv_aload_n hx hb dL_law_984 rfl (lv_at hl 5 rfl) ?_
  refine lv_iload hx hb dL_law_985 (lv_at hl 0 rfl) ?_
  refine lv_iconst (v := nI 3) hx hb dL_law_987 (by decide) ?_
  refine kn_iadd hx hb dL_law_988 ?_
  refine va_sld hx hb hX hbl hbA hS (sc_in (by omega) hL) dL_law_989 ?_
  refine kt_i (y := nI k) h3 ?_
  refine lv_aload_n hx hb dL_law_990 rfl (lv_at hl 5 rfl) ?_
  refine lv_iload hx hb dL_law_991 (lv_at hl 0 rfl) ?_
  refine lv_iconst (v := nI 4) hx hb dL_law_993 (by decide) ?_
  refine kn_iadd hx hb dL_law_994 ?_
  refine va_sld hx hb hX hbl hbA hS (sc_in (by omega) hL) dL_law_995 ?_
  refine kt_i (y := x4) h4 ?_
  refine lv_if_eq (tgt := 1003) hx hb dL_law_996 (by decide) (fun h => absurd h hz) (fun c_x => ?_)
  refine lv_iconst (v := nI 1) hx hb dL_law_999 (by decide) ?_
  refine kt_i (y := b2i true) (by decide) ?_
  refine lv_goto (tgt := 1004) hx hb dL_law_1000 (by decide) ?_
  refine lv_aload_n hx hb dL_law_1004 rfl (lv_at hl 2 rfl) ?_
  refine lw_wrapL (As := [.ref h0, .int (nI g), .int (nI w), .int (nI k), .int (b2i true), .ref qo]) C hP hD hS hK hl.1 (w_count l D h0 hn hd hq qo cZ cD cI cJ nb v ln go mw oL R.1 hl0 H.size g w k true hg hw hk) (vx_cwSW 6 hts gL_law_L_count rfl rfl rfl (by decide +kernel) ⟨Nat.le_of_ble_eq_true rfl, Nat.le_of_ble_eq_true rfl⟩) rfl dL_law_1005 (by omega) (by omega) (fun H locs hP hD hS => ?_)
  refine lv_istore (lv' := [(6, .int (nI 0)), (5, .int (nI i)), (4, .ref qd), (3, .ref qo), (2, .ref k0), (1, .ref h0), (0, .ref b)]) hx hb dL_law_1008 hl (by decide) rfl (fun ls hl => ?_)
  refine lv_aload_n hx hb dL_law_1010 rfl (lv_at hl 4 rfl) ?_
  refine lv_aload_n hx hb dL_law_1011 rfl (lv_at hl 6 rfl) ?_
  refine lv_iload hx hb dL_law_1012 (lv_at hl 1 rfl) ?_
  refine lv_iconst (v := nI 1) hx hb dL_law_1014 (by decide) ?_
  refine kn_iadd hx hb dL_law_1015 ?_
  refine va_sld hx hb hX hbl hbA hS (sc_in (by omega) hL) dL_law_1016 ?_
  refine kt_i (y := nI g) h1 ?_
  refine lv_aload_n hx hb dL_law_1017 rfl (lv_at hl 6 rfl) ?_
  refine lv_iload hx hb dL_law_1018 (lv_at hl 1 rfl) ?_
  refine lv_iconst (v := nI 2) hx hb dL_law_1020 (by decide) ?_
  refine kn_iadd hx hb dL_law_1021 ?_
  refine va_sld hx hb hX hbl hbA hS (sc_in (by omega) hL) dL_law_1022 ?_
  refine kt_i (y := nI w) h2 ?_
  refine lv_aload_n hx hb dL_law_1023 rfl (lv_at hl 6 rfl) ?_
  refine lv_iload hx hb dL_law_1024 (lv_at hl 1 rfl) ?_
  refine lv_iconst (v := nI 3) hx hb dL_law_1026 (by decide) ?_
  refine kn_iadd hx hb dL_law_1027 ?_
  refine va_sld hx hb hX hbl hbA hS (sc_in (by omega) hL) dL_law_1028 ?_
  refine kt_i (y := nI k) h3 ?_
  refine lv_aload_n hx hb dL_law_1029 rfl (lv_at hl 6 rfl) ?_
  refine lv_iload hx hb dL_law_1030 (lv_at hl 1 rfl) ?_
  refine lv_iconst (v := nI 4) hx hb dL_law_1032 (by decide) ?_
  refine kn_iadd hx hb dL_law_1033 ?_
  refine va_sld hx hb hX hbl hbA hS (sc_in (by omega) hL) dL_law_1034 ?_
  refine kt_i (y := x4) h4 ?_
  refine lv_if_eq (tgt := 1042) hx hb dL_law_1035 (by decide) (fun h => absurd h hz) (fun c_x => ?_)
  refine lv_iconst (v := nI 1) hx hb dL_law_1038 (by decide) ?_
  refine kt_i (y := b2i true) (by decide) ?_
  refine lv_goto (tgt := 1043) hx hb dL_law_1039 (by decide) ?_
  refine lw_modi (As := [.int (nI g), .int (nI w), .int (nI k), .int (b2i true)]) C hP hD hS hK hl.1 (c_X1_count l D k0 kv ko ks km kt kp kb cZ cD cI th mv io sz mk se pv pd go mw R.2.1 H.size g w k true hg hw hk) (cwV 4 hts gL_law_X1_count rfl rfl rfl (by decide +kernel) ⟨Nat.le_of_ble_eq_true rfl, Nat.le_of_ble_eq_true rfl⟩) rfl dL_law_1043 (by omega) (by omega) (fun H locs hP hD hS => ?_)
  refine lv_istore (lv' := [(7, .int (nI (if true = true then sz (2 * g + w) - cn (fun j => isW k (wy (io (12 * (2 * g + w) + j) || !pd w) (mv (12 * (2 * g + w) + j)) (pv w))) (sz (2 * g + w)) else cn (fun j => isW k (wy (io (12 * (2 * g + w) + j) || !pd w) (mv (12 * (2 * g + w) + j)) (pv w))) (sz (2 * g + w))))), (6, .int (nI 0)), (5, .int (nI i)), (4, .ref qd), (3, .ref qo), (2, .ref k0), (1, .ref h0), (0, .ref b)]) hx hb dL_law_1046 hl (by decide) rfl (fun ls hl => ?_)
  refine lv_aload_n hx hb dL_law_1048 rfl (lv_at hl 5 rfl) ?_
  refine lw_thrown (R).2.1 C hP hK hl.1 dL_law_1049 (by omega) (by omega) ?_
  refine kt_i (y := nI 0) (rfl) ?_
  refine lv_iload hx hb dL_law_1052 (lv_at hl 1 rfl) ?_
  refine kn_icmp_eq (tgt := 1059) hx hb (by decide) (by decide) dL_law_1054 (by decide) (fun _ => ?_) (fun h => absurd h (by decide))
  refine lv_iload hx hb dL_law_1059 (lv_at hl 1 rfl) ?_
  refine kn_ne (tgt := 1076) hx hb (by decide) dL_law_1061 (by decide) (fun h => absurd h (by decide)) (fun _ => ?_)
  refine lv_aload_n hx hb dL_law_1064 rfl (lv_at hl 4 rfl) ?_
  refine lv_iconst (v := nI 0) hx hb dL_law_1065 (by decide) ?_
  refine kn_lald hx hb hK hP 12 3 rfl rfl (by decide) (by decide) dL_law_1066 ?_
  refine lv_iload hx hb dL_law_1067 (lv_at hl 0 rfl) ?_
  refine lv_i2l hx hb dL_law_1069 rfl ?_
  refine W.lcmp hx hb dL_law_1070 ?_
  refine lv_if_eq (tgt := 1076) hx hb dL_law_1071 (by decide) (fun c_x => ?_) (fun h => absurd (lc_eq (by rw [up_s]; exact congrArg Int32.toInt64 (congrArg nI (R.count hg hw hk true).symm))) h)
  refine lv_goto (tgt := 1745) hx hb dL_law_1076 (by decide) ?_
  refine W.widen (k := cells + 6) (n := slots + 40) (by omega) (by omega) ?_
  exact N R hP hD hS (lv_sub hl [2, 3, 4, 5, 6, 7] rfl)
set_option maxHeartbeats 4000000 in
set_option maxRecDepth 100000 in
theorem cs_count_bad_t {x1 x2 x3 x4 : Int32} (hbad : ¬ (InN 6 x1 ∧ InN 2 x2 ∧ InN 6 x3)) (hz : ¬ x4 = 0) (h1 : xs (nI (i + 1)).toNatClampNeg = x1) (h2 : xs (nI (i + 2)).toNatClampNeg = x2) (h3 : xs (nI (i + 3)).toNatClampNeg = x3) (h4 : xs (nI (i + 4)).toNatClampNeg = x4) (R : Rl nb v ln io mv sz mk se pv pd) (C : LwC l p s m meth c b L xs) (hL : L ≤ 2560) (hi : i + 4 < L) (hK : va_K D vwCl (TYL cZ cD cI cJ) s) (hP : va_P D vwCl (WA h0 hn hd hq k0 kv ko ks km kt kp kb qo qd cZ cD cI cJ nb v ln go mw th mv io sz mk se pv pd go mw oL oD) H) (hD : va_D (fun q : Nat => s.heap.size ≤ q) (WA h0 hn hd hq k0 kv ko ks km kt kp kb qo qd cZ cD cI cJ nb v ln go mw th mv io sz mk se pv pd go mw oL oD)) (hS : va_S (fun q : Nat => s.heap.size ≤ q) s.heap H locs) (hl : lv_has ls 9 [(5, .int (nI i)), (4, .ref qd), (3, .ref qo), (2, .ref k0), (1, .ref h0), (0, .ref b)]) (hcc : cells + 6 ≤ 3101) (hss : slots + 40 ≤ 21269) (N : LwN p l e s m below meth c b Q D h0 hn hd hq k0 kv ko ks km kt kp kb qo qd cZ cD cI cJ i (cells + 6) (slots + 40)) : W p l e room_1 s m #[Value.ref b] below meth c H locs cells slots Q (F0 m 971 ls []) := by
  have C0 := C
  obtain ⟨hx, hb, hr, hml, hown, hts, hX, hbl, hlocks, hl0, hZ, hxS, hxD, hxN⟩ := C0
  have hbA : ¬ (fun q : Nat => s.heap.size ≤ q) b := Nat.not_le.mpr hbl
  have hcm : room_1.cells = 3101 := rfl
  have hsm : room_1.slots = 21269 := rfl
  refine lv_aload_n hx hb dL_law_971 rfl (lv_at hl 4 rfl) ?_
  refine lv_aload_n hx hb dL_law_972 rfl (lv_at hl 5 rfl) ?_
  refine lv_iload hx hb dL_law_973 (lv_at hl 0 rfl) ?_
  refine lv_iconst (v := nI 1) hx hb dL_law_975 (by decide) ?_
  refine kn_iadd hx hb dL_law_976 ?_
  refine va_sld hx hb hX hbl hbA hS (sc_in (by omega) hL) dL_law_977 ?_
  refine kt_i (y := x1) h1 ?_
  refine lv_aload_n hx hb dL_law_978 rfl (lv_at hl 5 rfl) ?_
  refine lv_iload hx hb dL_law_979 (lv_at hl 0 rfl) ?_
  refine lv_iconst (v := nI 2) hx hb dL_law_981 (by decide) ?_
  refine kn_iadd hx hb dL_law_982 ?_
  refine va_sld hx hb hX hbl hbA hS (sc_in (by omega) hL) dL_law_983 ?_
  refine kt_i (y := x2) h2 ?_
  refine lv_aload_n hx hb dL_law_984 rfl (lv_at hl 5 rfl) ?_
  refine lv_iload hx hb dL_law_985 (lv_at hl 0 rfl) ?_
  refine lv_iconst (v := nI 3) hx hb dL_law_987 (by decide) ?_
  refine kn_iadd hx hb dL_law_988 ?_
  refine va_sld hx hb hX hbl hbA hS (sc_in (by omega) hL) dL_law_989 ?_
  refine kt_i (y := x3) h3 ?_
  refine lv_aload_n hx hb dL_law_990 rfl (lv_at hl 5 rfl) ?_
  refine lv_iload hx hb dL_law_991 (lv_at hl 0 rfl) ?_
  refine lv_iconst (v := nI 4) hx hb dL_law_993 (by decide) ?_
  refine kn_iadd hx hb dL_law_994 ?_
  refine va_sld hx hb hX hbl hbA hS (sc_in (by omega) hL) dL_law_995 ?_
  refine kt_i (y := x4) h4 ?_
  refine lv_if_eq (tgt := 1003) hx hb dL_law_996 (by decide) (fun h => absurd h hz) (fun c_x => ?_)
  refine lv_iconst (v := nI 1) hx hb dL_law_999 (by decide) ?_
  refine kt_i (y := b2i true) (by decide) ?_
  refine lv_goto (tgt := 1004) hx hb dL_law_1000 (by decide) ?_
  refine lv_aload_n hx hb dL_law_1004 rfl (lv_at hl 2 rfl) ?_
  refine lw_wrapL (As := [.ref h0, .int x1, .int x2, .int x3, .int (b2i true), .ref qo]) C hP hD hS hK hl.1 (w_count_bad l D h0 hn hd hq qo cZ cD cI cJ nb v ln go mw oL R.1 hl0 H.size x1 x2 x3 true hbad) (vx_cwSW 6 hts gL_law_L_count rfl rfl rfl (by decide +kernel) ⟨Nat.le_of_ble_eq_true rfl, Nat.le_of_ble_eq_true rfl⟩) rfl dL_law_1005 (by omega) (by omega) (fun H locs hP hD hS => ?_)
  refine lv_istore (lv' := [(6, .int (nI 1)), (5, .int (nI i)), (4, .ref qd), (3, .ref qo), (2, .ref k0), (1, .ref h0), (0, .ref b)]) hx hb dL_law_1008 hl (by decide) rfl (fun ls hl => ?_)
  refine lv_aload_n hx hb dL_law_1010 rfl (lv_at hl 4 rfl) ?_
  refine lv_aload_n hx hb dL_law_1011 rfl (lv_at hl 6 rfl) ?_
  refine lv_iload hx hb dL_law_1012 (lv_at hl 1 rfl) ?_
  refine lv_iconst (v := nI 1) hx hb dL_law_1014 (by decide) ?_
  refine kn_iadd hx hb dL_law_1015 ?_
  refine va_sld hx hb hX hbl hbA hS (sc_in (by omega) hL) dL_law_1016 ?_
  refine kt_i (y := x1) h1 ?_
  refine lv_aload_n hx hb dL_law_1017 rfl (lv_at hl 6 rfl) ?_
  refine lv_iload hx hb dL_law_1018 (lv_at hl 1 rfl) ?_
  refine lv_iconst (v := nI 2) hx hb dL_law_1020 (by decide) ?_
  refine kn_iadd hx hb dL_law_1021 ?_
  refine va_sld hx hb hX hbl hbA hS (sc_in (by omega) hL) dL_law_1022 ?_
  refine kt_i (y := x2) h2 ?_
  refine lv_aload_n hx hb dL_law_1023 rfl (lv_at hl 6 rfl) ?_
  refine lv_iload hx hb dL_law_1024 (lv_at hl 1 rfl) ?_
  refine lv_iconst (v := nI 3) hx hb dL_law_1026 (by decide) ?_
  refine kn_iadd hx hb dL_law_1027 ?_
  refine va_sld hx hb hX hbl hbA hS (sc_in (by omega) hL) dL_law_1028 ?_
  refine kt_i (y := x3) h3 ?_
  refine lv_aload_n hx hb dL_law_1029 rfl (lv_at hl 6 rfl) ?_
  refine lv_iload hx hb dL_law_1030 (lv_at hl 1 rfl) ?_
  refine lv_iconst (v := nI 4) hx hb dL_law_1032 (by decide) ?_
  refine kn_iadd hx hb dL_law_1033 ?_
  refine va_sld hx hb hX hbl hbA hS (sc_in (by omega) hL) dL_law_1034 ?_
  refine kt_i (y := x4) h4 ?_
  refine lv_if_eq (tgt := 1042) hx hb dL_law_1035 (by decide) (fun h => absurd h hz) (fun c_x => ?_)
  refine lv_iconst (v := nI 1) hx hb dL_law_1038 (by decide) ?_
  refine kt_i (y := b2i true) (by decide) ?_
  refine lv_goto (tgt := 1043) hx hb dL_law_1039 (by decide) ?_
  refine lw_modi (As := [.int x1, .int x2, .int x3, .int (b2i true)]) C hP hD hS hK hl.1 (c_X1_count_bad l D k0 kv ko ks km kt kp kb cZ cD cI th mv io sz mk se pv pd go mw R.2.1 H.size x1 x2 x3 true hbad) (cwV 4 hts gL_law_X1_count rfl rfl rfl (by decide +kernel) ⟨Nat.le_of_ble_eq_true rfl, Nat.le_of_ble_eq_true rfl⟩) rfl dL_law_1043 (by omega) (by omega) (fun H locs hP hD hS => ?_)
  refine lv_istore (lv' := [(7, .int (nI 0)), (6, .int (nI 1)), (5, .int (nI i)), (4, .ref qd), (3, .ref qo), (2, .ref k0), (1, .ref h0), (0, .ref b)]) hx hb dL_law_1046 hl (by decide) rfl (fun ls hl => ?_)
  refine lv_aload_n hx hb dL_law_1048 rfl (lv_at hl 5 rfl) ?_
  refine lw_thrown (R).2.1 C hP hK hl.1 dL_law_1049 (by omega) (by omega) ?_
  refine kt_i (y := nI 1) (rfl) ?_
  refine lv_iload hx hb dL_law_1052 (lv_at hl 1 rfl) ?_
  refine kn_icmp_eq (tgt := 1059) hx hb (by decide) (by decide) dL_law_1054 (by decide) (fun _ => ?_) (fun h => absurd h (by decide))
  refine lv_iload hx hb dL_law_1059 (lv_at hl 1 rfl) ?_
  refine kn_ne (tgt := 1076) hx hb (by decide) dL_law_1061 (by decide) (fun _ => ?_) (fun h => absurd h (by decide))
  refine lv_goto (tgt := 1745) hx hb dL_law_1076 (by decide) ?_
  refine W.widen (k := cells + 6) (n := slots + 40) (by omega) (by omega) ?_
  exact N R hP hD hS (lv_sub hl [2, 3, 4, 5, 6, 7] rfl)
set_option maxHeartbeats 4000000 in
set_option maxRecDepth 100000 in
theorem cs_run_f {g : Nat} (hg : g < 6) {w : Nat} (hw : w < 2) {k : Nat} (hk : k < 6) {x4 : Int32} (hz : x4 = 0) (h1 : xs (nI (i + 1)).toNatClampNeg = nI g) (h2 : xs (nI (i + 2)).toNatClampNeg = nI w) (h3 : xs (nI (i + 3)).toNatClampNeg = nI k) (h4 : xs (nI (i + 4)).toNatClampNeg = x4) (R : Rl nb v ln io mv sz mk se pv pd) (C : LwC l p s m meth c b L xs) (hL : L ≤ 2560) (hi : i + 4 < L) (hK : va_K D vwCl (TYL cZ cD cI cJ) s) (hP : va_P D vwCl (WA h0 hn hd hq k0 kv ko ks km kt kp kb qo qd cZ cD cI cJ nb v ln go mw th mv io sz mk se pv pd go mw oL oD) H) (hD : va_D (fun q : Nat => s.heap.size ≤ q) (WA h0 hn hd hq k0 kv ko ks km kt kp kb qo qd cZ cD cI cJ nb v ln go mw th mv io sz mk se pv pd go mw oL oD)) (hS : va_S (fun q : Nat => s.heap.size ≤ q) s.heap H locs) (hl : lv_has ls 9 [(5, .int (nI i)), (4, .ref qd), (3, .ref qo), (2, .ref k0), (1, .ref h0), (0, .ref b)]) (hcc : cells + 6 ≤ 3101) (hss : slots + 40 ≤ 21269) (N : LwN p l e s m below meth c b Q D h0 hn hd hq k0 kv ko ks km kt kp kb qo qd cZ cD cI cJ i (cells + 6) (slots + 40)) : W p l e room_1 s m #[Value.ref b] below meth c H locs cells slots Q (F0 m 863 ls []) := by
  have C0 := C
  obtain ⟨hx, hb, hr, hml, hown, hts, hX, hbl, hlocks, hl0, hZ, hxS, hxD, hxN⟩ := C0
  have hbA : ¬ (fun q : Nat => s.heap.size ≤ q) b := Nat.not_le.mpr hbl
  have hcm : room_1.cells = 3101 := rfl
  have hsm : room_1.slots = 21269 := rfl
  refine lv_aload_n hx hb dL_law_863 rfl (lv_at hl 4 rfl) ?_
  refine lv_aload_n hx hb dL_law_864 rfl (lv_at hl 5 rfl) ?_
  refine lv_iload hx hb dL_law_865 (lv_at hl 0 rfl) ?_
  refine lv_iconst (v := nI 1) hx hb dL_law_867 (by decide) ?_
  refine kn_iadd hx hb dL_law_868 ?_
  refine va_sld hx hb hX hbl hbA hS (sc_in (by omega) hL) dL_law_869 ?_
  refine kt_i (y := nI g) h1 ?_
  refine lv_aload_n hx hb dL_law_870 rfl (lv_at hl 5 rfl) ?_
  refine lv_iload hx hb dL_law_871 (lv_at hl 0 rfl) ?_
  refine lv_iconst (v := nI 2) hx hb dL_law_873 (by decide) ?_
  refine kn_iadd hx hb dL_law_874 ?_
  refine va_sld hx hb hX hbl hbA hS (sc_in (by omega) hL) dL_law_875 ?_
  refine kt_i (y := nI w) h2 ?_
  refine lv_aload_n hx hb dL_law_876 rfl (lv_at hl 5 rfl) ?_
  refine lv_iload hx hb dL_law_877 (lv_at hl 0 rfl) ?_
  refine lv_iconst (v := nI 3) hx hb dL_law_879 (by decide) ?_
  refine kn_iadd hx hb dL_law_880 ?_
  refine va_sld hx hb hX hbl hbA hS (sc_in (by omega) hL) dL_law_881 ?_
  refine kt_i (y := nI k) h3 ?_
  refine lv_aload_n hx hb dL_law_882 rfl (lv_at hl 5 rfl) ?_
  refine lv_iload hx hb dL_law_883 (lv_at hl 0 rfl) ?_
  refine lv_iconst (v := nI 4) hx hb dL_law_885 (by decide) ?_
  refine kn_iadd hx hb dL_law_886 ?_
  refine va_sld hx hb hX hbl hbA hS (sc_in (by omega) hL) dL_law_887 ?_
  refine kt_i (y := x4) h4 ?_
  refine lv_if_eq (tgt := 895) hx hb dL_law_888 (by decide) (fun c_x => ?_) (fun h => absurd hz h)
  refine lv_iconst (v := nI 0) hx hb dL_law_895 (by decide) ?_
  refine kt_i (y := b2i false) (by decide) ?_
  refine lv_aload_n hx hb dL_law_896 rfl (lv_at hl 2 rfl) ?_
  refine lw_wrapL (As := [.ref h0, .int (nI g), .int (nI w), .int (nI k), .int (b2i false), .ref qo]) C hP hD hS hK hl.1 (w_run l D h0 hn hd hq qo cZ cD cI cJ nb v ln go mw oL R.1 hl0 H.size g w k false hg hw hk) (vx_cwSW 6 hts gL_law_L_run rfl rfl rfl (by decide +kernel) ⟨Nat.le_of_ble_eq_true rfl, Nat.le_of_ble_eq_true rfl⟩) rfl dL_law_897 (by omega) (by omega) (fun H locs hP hD hS => ?_)
  refine lv_istore (lv' := [(6, .int (nI 0)), (5, .int (nI i)), (4, .ref qd), (3, .ref qo), (2, .ref k0), (1, .ref h0), (0, .ref b)]) hx hb dL_law_900 hl (by decide) rfl (fun ls hl => ?_)
  refine lv_aload_n hx hb dL_law_902 rfl (lv_at hl 4 rfl) ?_
  refine lv_aload_n hx hb dL_law_903 rfl (lv_at hl 6 rfl) ?_
  refine lv_iload hx hb dL_law_904 (lv_at hl 1 rfl) ?_
  refine lv_iconst (v := nI 1) hx hb dL_law_906 (by decide) ?_
  refine kn_iadd hx hb dL_law_907 ?_
  refine va_sld hx hb hX hbl hbA hS (sc_in (by omega) hL) dL_law_908 ?_
  refine kt_i (y := nI g) h1 ?_
  refine lv_aload_n hx hb dL_law_909 rfl (lv_at hl 6 rfl) ?_
  refine lv_iload hx hb dL_law_910 (lv_at hl 1 rfl) ?_
  refine lv_iconst (v := nI 2) hx hb dL_law_912 (by decide) ?_
  refine kn_iadd hx hb dL_law_913 ?_
  refine va_sld hx hb hX hbl hbA hS (sc_in (by omega) hL) dL_law_914 ?_
  refine kt_i (y := nI w) h2 ?_
  refine lv_aload_n hx hb dL_law_915 rfl (lv_at hl 6 rfl) ?_
  refine lv_iload hx hb dL_law_916 (lv_at hl 1 rfl) ?_
  refine lv_iconst (v := nI 3) hx hb dL_law_918 (by decide) ?_
  refine kn_iadd hx hb dL_law_919 ?_
  refine va_sld hx hb hX hbl hbA hS (sc_in (by omega) hL) dL_law_920 ?_
  refine kt_i (y := nI k) h3 ?_
  refine lv_aload_n hx hb dL_law_921 rfl (lv_at hl 6 rfl) ?_
  refine lv_iload hx hb dL_law_922 (lv_at hl 1 rfl) ?_
  refine lv_iconst (v := nI 4) hx hb dL_law_924 (by decide) ?_
  refine kn_iadd hx hb dL_law_925 ?_
  refine va_sld hx hb hX hbl hbA hS (sc_in (by omega) hL) dL_law_926 ?_
  refine kt_i (y := x4) h4 ?_
  refine lv_if_eq (tgt := 934) hx hb dL_law_927 (by decide) (fun c_x => ?_) (fun h => absurd hz h)
  refine lv_iconst (v := nI 0) hx hb dL_law_934 (by decide) ?_
  refine kt_i (y := b2i false) (by decide) ?_
  refine lw_modi (As := [.int (nI g), .int (nI w), .int (nI k), .int (b2i false)]) C hP hD hS hK hl.1 (c_X1_run_false l D k0 kv ko ks km kt kp kb cZ cD cI th mv io sz mk se pv pd go mw R.2.1 H.size g w k hg hw hk) (cwV 4 hts gL_law_X1_run rfl rfl rfl (by decide +kernel) ⟨Nat.le_of_ble_eq_true rfl, Nat.le_of_ble_eq_true rfl⟩) rfl dL_law_935 (by omega) (by omega) (fun H locs hP hD hS => ?_)
  refine lv_istore (lv' := [(7, .int (nI (nq (fun j => isW k (wy (io (12 * (2 * g + w) + j) || !pd w) (mv (12 * (2 * g + w) + j)) (pv w))) (sz (2 * g + w))))), (6, .int (nI 0)), (5, .int (nI i)), (4, .ref qd), (3, .ref qo), (2, .ref k0), (1, .ref h0), (0, .ref b)]) hx hb dL_law_938 hl (by decide) rfl (fun ls hl => ?_)
  refine lv_aload_n hx hb dL_law_940 rfl (lv_at hl 5 rfl) ?_
  refine lw_thrown (R).2.1 C hP hK hl.1 dL_law_941 (by omega) (by omega) ?_
  refine kt_i (y := nI 0) (rfl) ?_
  refine lv_iload hx hb dL_law_944 (lv_at hl 1 rfl) ?_
  refine kn_icmp_eq (tgt := 951) hx hb (by decide) (by decide) dL_law_946 (by decide) (fun _ => ?_) (fun h => absurd h (by decide))
  refine lv_iload hx hb dL_law_951 (lv_at hl 1 rfl) ?_
  refine kn_ne (tgt := 968) hx hb (by decide) dL_law_953 (by decide) (fun h => absurd h (by decide)) (fun _ => ?_)
  refine lv_aload_n hx hb dL_law_956 rfl (lv_at hl 4 rfl) ?_
  refine lv_iconst (v := nI 0) hx hb dL_law_957 (by decide) ?_
  refine kn_lald hx hb hK hP 12 3 rfl rfl (by decide) (by decide) dL_law_958 ?_
  refine lv_iload hx hb dL_law_959 (lv_at hl 0 rfl) ?_
  refine lv_i2l hx hb dL_law_961 rfl ?_
  refine W.lcmp hx hb dL_law_962 ?_
  refine lv_if_eq (tgt := 968) hx hb dL_law_963 (by decide) (fun c_x => ?_) (fun h => absurd (lc_eq (by rw [up_s]; exact congrArg Int32.toInt64 (congrArg nI (R.run_f hg hw hk).symm))) h)
  refine lv_goto (tgt := 1745) hx hb dL_law_968 (by decide) ?_
  refine W.widen (k := cells + 6) (n := slots + 40) (by omega) (by omega) ?_
  exact N R hP hD hS (lv_sub hl [2, 3, 4, 5, 6, 7] rfl)
set_option maxHeartbeats 4000000 in
set_option maxRecDepth 100000 in
theorem cs_run_bad_f {x1 x2 x3 x4 : Int32} (hbad : ¬ (InN 6 x1 ∧ InN 2 x2 ∧ InN 6 x3)) (hz : x4 = 0) (h1 : xs (nI (i + 1)).toNatClampNeg = x1) (h2 : xs (nI (i + 2)).toNatClampNeg = x2) (h3 : xs (nI (i + 3)).toNatClampNeg = x3) (h4 : xs (nI (i + 4)).toNatClampNeg = x4) (R : Rl nb v ln io mv sz mk se pv pd) (C : LwC l p s m meth c b L xs) (hL : L ≤ 2560) (hi : i + 4 < L) (hK : va_K D vwCl (TYL cZ cD cI cJ) s) (hP : va_P D vwCl (WA h0 hn hd hq k0 kv ko ks km kt kp kb qo qd cZ cD cI cJ nb v ln go mw th mv io sz mk se pv pd go mw oL oD) H) (hD : va_D (fun q : Nat => s.heap.size ≤ q) (WA h0 hn hd hq k0 kv ko ks km kt kp kb qo qd cZ cD cI cJ nb v ln go mw th mv io sz mk se pv pd go mw oL oD)) (hS : va_S (fun q : Nat => s.heap.size ≤ q) s.heap H locs) (hl : lv_has ls 9 [(5, .int (nI i)), (4, .ref qd), (3, .ref qo), (2, .ref k0), (1, .ref h0), (0, .ref b)]) (hcc : cells + 6 ≤ 3101) (hss : slots + 40 ≤ 21269) (N : LwN p l e s m below meth c b Q D h0 hn hd hq k0 kv ko ks km kt kp kb qo qd cZ cD cI cJ i (cells + 6) (slots + 40)) : W p l e room_1 s m #[Value.ref b] below meth c H locs cells slots Q (F0 m 863 ls []) := by
  have C0 := C
  obtain ⟨hx, hb, hr, hml, hown, hts, hX, hbl, hlocks, hl0, hZ, hxS, hxD, hxN⟩ := C0
  have hbA : ¬ (fun q : Nat => s.heap.size ≤ q) b := Nat.not_le.mpr hbl
  have hcm : room_1.cells = 3101 := rfl
  have hsm : room_1.slots = 21269 := rfl
  refine lv_aload_n hx hb dL_law_863 rfl (lv_at hl 4 rfl) ?_
  refine lv_aload_n hx hb dL_law_864 rfl (lv_at hl 5 rfl) ?_
  refine lv_iload hx hb dL_law_865 (lv_at hl 0 rfl) ?_
  refine lv_iconst (v := nI 1) hx hb dL_law_867 (by decide) ?_
  refine kn_iadd hx hb dL_law_868 ?_
  refine va_sld hx hb hX hbl hbA hS (sc_in (by omega) hL) dL_law_869 ?_
  refine kt_i (y := x1) h1 ?_
  refine lv_aload_n hx hb dL_law_870 rfl (lv_at hl 5 rfl) ?_
  refine lv_iload hx hb dL_law_871 (lv_at hl 0 rfl) ?_
  refine lv_iconst (v := nI 2) hx hb dL_law_873 (by decide) ?_
  refine kn_iadd hx hb dL_law_874 ?_
  refine va_sld hx hb hX hbl hbA hS (sc_in (by omega) hL) dL_law_875 ?_
  refine kt_i (y := x2) h2 ?_
  refine lv_aload_n hx hb dL_law_876 rfl (lv_at hl 5 rfl) ?_
  refine lv_iload hx hb dL_law_877 (lv_at hl 0 rfl) ?_
  refine lv_iconst (v := nI 3) hx hb dL_law_879 (by decide) ?_
  refine kn_iadd hx hb dL_law_880 ?_
  refine va_sld hx hb hX hbl hbA hS (sc_in (by omega) hL) dL_law_881 ?_
  refine kt_i (y := x3) h3 ?_
  refine lv_aload_n hx hb dL_law_882 rfl (lv_at hl 5 rfl) ?_
  refine lv_iload hx hb dL_law_883 (lv_at hl 0 rfl) ?_
  refine lv_iconst (v := nI 4) hx hb dL_law_885 (by decide) ?_
  refine kn_iadd hx hb dL_law_886 ?_
  refine va_sld hx hb hX hbl hbA hS (sc_in (by omega) hL) dL_law_887 ?_
  refine kt_i (y := x4) h4 ?_
  refine lv_if_eq (tgt := 895) hx hb dL_law_888 (by decide) (fun c_x => ?_) (fun h => absurd hz h)
  refine lv_iconst (v := nI 0) hx hb dL_law_895 (by decide) ?_
  refine kt_i (y := b2i false) (by decide) ?_
  refine lv_aload_n hx hb dL_law_896 rfl (lv_at hl 2 rfl) ?_
  refine lw_wrapL (As := [.ref h0, .int x1, .int x2, .int x3, .int (b2i false), .ref qo]) C hP hD hS hK hl.1 (w_run_bad l D h0 hn hd hq qo cZ cD cI cJ nb v ln go mw oL R.1 hl0 H.size x1 x2 x3 false hbad) (vx_cwSW 6 hts gL_law_L_run rfl rfl rfl (by decide +kernel) ⟨Nat.le_of_ble_eq_true rfl, Nat.le_of_ble_eq_true rfl⟩) rfl dL_law_897 (by omega) (by omega) (fun H locs hP hD hS => ?_)
  refine lv_istore (lv' := [(6, .int (nI 1)), (5, .int (nI i)), (4, .ref qd), (3, .ref qo), (2, .ref k0), (1, .ref h0), (0, .ref b)]) hx hb dL_law_900 hl (by decide) rfl (fun ls hl => ?_)
  refine lv_aload_n hx hb dL_law_902 rfl (lv_at hl 4 rfl) ?_
  refine lv_aload_n hx hb dL_law_903 rfl (lv_at hl 6 rfl) ?_
  refine lv_iload hx hb dL_law_904 (lv_at hl 1 rfl) ?_
  refine lv_iconst (v := nI 1) hx hb dL_law_906 (by decide) ?_
  refine kn_iadd hx hb dL_law_907 ?_
  refine va_sld hx hb hX hbl hbA hS (sc_in (by omega) hL) dL_law_908 ?_
  refine kt_i (y := x1) h1 ?_
  refine lv_aload_n hx hb dL_law_909 rfl (lv_at hl 6 rfl) ?_
  refine lv_iload hx hb dL_law_910 (lv_at hl 1 rfl) ?_
  refine lv_iconst (v := nI 2) hx hb dL_law_912 (by decide) ?_
  refine kn_iadd hx hb dL_law_913 ?_
  refine va_sld hx hb hX hbl hbA hS (sc_in (by omega) hL) dL_law_914 ?_
  refine kt_i (y := x2) h2 ?_
  refine lv_aload_n hx hb dL_law_915 rfl (lv_at hl 6 rfl) ?_
  refine lv_iload hx hb dL_law_916 (lv_at hl 1 rfl) ?_
  refine lv_iconst (v := nI 3) hx hb dL_law_918 (by decide) ?_
  refine kn_iadd hx hb dL_law_919 ?_
  refine va_sld hx hb hX hbl hbA hS (sc_in (by omega) hL) dL_law_920 ?_
  refine kt_i (y := x3) h3 ?_
  refine lv_aload_n hx hb dL_law_921 rfl (lv_at hl 6 rfl) ?_
  refine lv_iload hx hb dL_law_922 (lv_at hl 1 rfl) ?_
  refine lv_iconst (v := nI 4) hx hb dL_law_924 (by decide) ?_
  refine kn_iadd hx hb dL_law_925 ?_
  refine va_sld hx hb hX hbl hbA hS (sc_in (by omega) hL) dL_law_926 ?_
  refine kt_i (y := x4) h4 ?_
  refine lv_if_eq (tgt := 934) hx hb dL_law_927 (by decide) (fun c_x => ?_) (fun h => absurd hz h)
  refine lv_iconst (v := nI 0) hx hb dL_law_934 (by decide) ?_
  refine kt_i (y := b2i false) (by decide) ?_
  refine lw_modi (As := [.int x1, .int x2, .int x3, .int (b2i false)]) C hP hD hS hK hl.1 (c_X1_run_bad l D k0 kv ko ks km kt kp kb cZ cD cI th mv io sz mk se pv pd go mw R.2.1 H.size x1 x2 x3 false hbad) (cwV 4 hts gL_law_X1_run rfl rfl rfl (by decide +kernel) ⟨Nat.le_of_ble_eq_true rfl, Nat.le_of_ble_eq_true rfl⟩) rfl dL_law_935 (by omega) (by omega) (fun H locs hP hD hS => ?_)
  refine lv_istore (lv' := [(7, .int (nI 0)), (6, .int (nI 1)), (5, .int (nI i)), (4, .ref qd), (3, .ref qo), (2, .ref k0), (1, .ref h0), (0, .ref b)]) hx hb dL_law_938 hl (by decide) rfl (fun ls hl => ?_)
  refine lv_aload_n hx hb dL_law_940 rfl (lv_at hl 5 rfl) ?_
  refine lw_thrown (R).2.1 C hP hK hl.1 dL_law_941 (by omega) (by omega) ?_
  refine kt_i (y := nI 1) (rfl) ?_
  refine lv_iload hx hb dL_law_944 (lv_at hl 1 rfl) ?_
  refine kn_icmp_eq (tgt := 951) hx hb (by decide) (by decide) dL_law_946 (by decide) (fun _ => ?_) (fun h => absurd h (by decide))
  refine lv_iload hx hb dL_law_951 (lv_at hl 1 rfl) ?_
  refine kn_ne (tgt := 968) hx hb (by decide) dL_law_953 (by decide) (fun _ => ?_) (fun h => absurd h (by decide))
  refine lv_goto (tgt := 1745) hx hb dL_law_968 (by decide) ?_
  refine W.widen (k := cells + 6) (n := slots + 40) (by omega) (by omega) ?_
  exact N R hP hD hS (lv_sub hl [2, 3, 4, 5, 6, 7] rfl)
set_option maxHeartbeats 4000000 in
set_option maxRecDepth 100000 in
theorem cs_count_f {g : Nat} (hg : g < 6) {w : Nat} (hw : w < 2) {k : Nat} (hk : k < 6) {x4 : Int32} (hz : x4 = 0) (h1 : xs (nI (i + 1)).toNatClampNeg = nI g) (h2 : xs (nI (i + 2)).toNatClampNeg = nI w) (h3 : xs (nI (i + 3)).toNatClampNeg = nI k) (h4 : xs (nI (i + 4)).toNatClampNeg = x4) (R : Rl nb v ln io mv sz mk se pv pd) (C : LwC l p s m meth c b L xs) (hL : L ≤ 2560) (hi : i + 4 < L) (hK : va_K D vwCl (TYL cZ cD cI cJ) s) (hP : va_P D vwCl (WA h0 hn hd hq k0 kv ko ks km kt kp kb qo qd cZ cD cI cJ nb v ln go mw th mv io sz mk se pv pd go mw oL oD) H) (hD : va_D (fun q : Nat => s.heap.size ≤ q) (WA h0 hn hd hq k0 kv ko ks km kt kp kb qo qd cZ cD cI cJ nb v ln go mw th mv io sz mk se pv pd go mw oL oD)) (hS : va_S (fun q : Nat => s.heap.size ≤ q) s.heap H locs) (hl : lv_has ls 9 [(5, .int (nI i)), (4, .ref qd), (3, .ref qo), (2, .ref k0), (1, .ref h0), (0, .ref b)]) (hcc : cells + 6 ≤ 3101) (hss : slots + 40 ≤ 21269) (N : LwN p l e s m below meth c b Q D h0 hn hd hq k0 kv ko ks km kt kp kb qo qd cZ cD cI cJ i (cells + 6) (slots + 40)) : W p l e room_1 s m #[Value.ref b] below meth c H locs cells slots Q (F0 m 971 ls []) := by
  have C0 := C
  obtain ⟨hx, hb, hr, hml, hown, hts, hX, hbl, hlocks, hl0, hZ, hxS, hxD, hxN⟩ := C0
  have hbA : ¬ (fun q : Nat => s.heap.size ≤ q) b := Nat.not_le.mpr hbl
  have hcm : room_1.cells = 3101 := rfl
  have hsm : room_1.slots = 21269 := rfl
  refine lv_aload_n hx hb dL_law_971 rfl (lv_at hl 4 rfl) ?_
  refine lv_aload_n hx hb dL_law_972 rfl (lv_at hl 5 rfl) ?_
  refine lv_iload hx hb dL_law_973 (lv_at hl 0 rfl) ?_
  refine lv_iconst (v := nI 1) hx hb dL_law_975 (by decide) ?_
  refine kn_iadd hx hb dL_law_976 ?_
  refine va_sld hx hb hX hbl hbA hS (sc_in (by omega) hL) dL_law_977 ?_
  refine kt_i (y := nI g) h1 ?_
  refine lv_aload_n hx hb dL_law_978 rfl (lv_at hl 5 rfl) ?_
  refine lv_iload hx hb dL_law_979 (lv_at hl 0 rfl) ?_
  refine lv_iconst (v := nI 2) hx hb dL_law_981 (by decide) ?_
  refine kn_iadd hx hb dL_law_982 ?_
  refine va_sld hx hb hX hbl hbA hS (sc_in (by omega) hL) dL_law_983 ?_
  refine kt_i (y := nI w) h2 ?_
  refine lv_aload_n hx hb dL_law_984 rfl (lv_at hl 5 rfl) ?_
  refine lv_iload hx hb dL_law_985 (lv_at hl 0 rfl) ?_
  refine lv_iconst (v := nI 3) hx hb dL_law_987 (by decide) ?_
  refine kn_iadd hx hb dL_law_988 ?_
  refine va_sld hx hb hX hbl hbA hS (sc_in (by omega) hL) dL_law_989 ?_
  refine kt_i (y := nI k) h3 ?_
  refine lv_aload_n hx hb dL_law_990 rfl (lv_at hl 5 rfl) ?_
  refine lv_iload hx hb dL_law_991 (lv_at hl 0 rfl) ?_
  refine lv_iconst (v := nI 4) hx hb dL_law_993 (by decide) ?_
  refine kn_iadd hx hb dL_law_994 ?_
  refine va_sld hx hb hX hbl hbA hS (sc_in (by omega) hL) dL_law_995 ?_
  refine kt_i (y := x4) h4 ?_
  refine lv_if_eq (tgt := 1003) hx hb dL_law_996 (by decide) (fun c_x => ?_) (fun h => absurd hz h)
  refine lv_iconst (v := nI 0) hx hb dL_law_1003 (by decide) ?_
  refine kt_i (y := b2i false) (by decide) ?_
  refine lv_aload_n hx hb dL_law_1004 rfl (lv_at hl 2 rfl) ?_
  refine lw_wrapL (As := [.ref h0, .int (nI g), .int (nI w), .int (nI k), .int (b2i false), .ref qo]) C hP hD hS hK hl.1 (w_count l D h0 hn hd hq qo cZ cD cI cJ nb v ln go mw oL R.1 hl0 H.size g w k false hg hw hk) (vx_cwSW 6 hts gL_law_L_count rfl rfl rfl (by decide +kernel) ⟨Nat.le_of_ble_eq_true rfl, Nat.le_of_ble_eq_true rfl⟩) rfl dL_law_1005 (by omega) (by omega) (fun H locs hP hD hS => ?_)
  refine lv_istore (lv' := [(6, .int (nI 0)), (5, .int (nI i)), (4, .ref qd), (3, .ref qo), (2, .ref k0), (1, .ref h0), (0, .ref b)]) hx hb dL_law_1008 hl (by decide) rfl (fun ls hl => ?_)
  refine lv_aload_n hx hb dL_law_1010 rfl (lv_at hl 4 rfl) ?_
  refine lv_aload_n hx hb dL_law_1011 rfl (lv_at hl 6 rfl) ?_
  refine lv_iload hx hb dL_law_1012 (lv_at hl 1 rfl) ?_
  refine lv_iconst (v := nI 1) hx hb dL_law_1014 (by decide) ?_
  refine kn_iadd hx hb dL_law_1015 ?_
  refine va_sld hx hb hX hbl hbA hS (sc_in (by omega) hL) dL_law_1016 ?_
  refine kt_i (y := nI g) h1 ?_
  refine lv_aload_n hx hb dL_law_1017 rfl (lv_at hl 6 rfl) ?_
  refine lv_iload hx hb dL_law_1018 (lv_at hl 1 rfl) ?_
  refine lv_iconst (v := nI 2) hx hb dL_law_1020 (by decide) ?_
  refine kn_iadd hx hb dL_law_1021 ?_
  refine va_sld hx hb hX hbl hbA hS (sc_in (by omega) hL) dL_law_1022 ?_
  refine kt_i (y := nI w) h2 ?_
  refine lv_aload_n hx hb dL_law_1023 rfl (lv_at hl 6 rfl) ?_
  refine lv_iload hx hb dL_law_1024 (lv_at hl 1 rfl) ?_
  refine lv_iconst (v := nI 3) hx hb dL_law_1026 (by decide) ?_
  refine kn_iadd hx hb dL_law_1027 ?_
  refine va_sld hx hb hX hbl hbA hS (sc_in (by omega) hL) dL_law_1028 ?_
  refine kt_i (y := nI k) h3 ?_
  refine lv_aload_n hx hb dL_law_1029 rfl (lv_at hl 6 rfl) ?_
  refine lv_iload hx hb dL_law_1030 (lv_at hl 1 rfl) ?_
  refine lv_iconst (v := nI 4) hx hb dL_law_1032 (by decide) ?_
  refine kn_iadd hx hb dL_law_1033 ?_
  refine va_sld hx hb hX hbl hbA hS (sc_in (by omega) hL) dL_law_1034 ?_
  refine kt_i (y := x4) h4 ?_
  refine lv_if_eq (tgt := 1042) hx hb dL_law_1035 (by decide) (fun c_x => ?_) (fun h => absurd hz h)
  refine lv_iconst (v := nI 0) hx hb dL_law_1042 (by decide) ?_
  refine kt_i (y := b2i false) (by decide) ?_
  refine lw_modi (As := [.int (nI g), .int (nI w), .int (nI k), .int (b2i false)]) C hP hD hS hK hl.1 (c_X1_count l D k0 kv ko ks km kt kp kb cZ cD cI th mv io sz mk se pv pd go mw R.2.1 H.size g w k false hg hw hk) (cwV 4 hts gL_law_X1_count rfl rfl rfl (by decide +kernel) ⟨Nat.le_of_ble_eq_true rfl, Nat.le_of_ble_eq_true rfl⟩) rfl dL_law_1043 (by omega) (by omega) (fun H locs hP hD hS => ?_)
  refine lv_istore (lv' := [(7, .int (nI (if false = true then sz (2 * g + w) - cn (fun j => isW k (wy (io (12 * (2 * g + w) + j) || !pd w) (mv (12 * (2 * g + w) + j)) (pv w))) (sz (2 * g + w)) else cn (fun j => isW k (wy (io (12 * (2 * g + w) + j) || !pd w) (mv (12 * (2 * g + w) + j)) (pv w))) (sz (2 * g + w))))), (6, .int (nI 0)), (5, .int (nI i)), (4, .ref qd), (3, .ref qo), (2, .ref k0), (1, .ref h0), (0, .ref b)]) hx hb dL_law_1046 hl (by decide) rfl (fun ls hl => ?_)
  refine lv_aload_n hx hb dL_law_1048 rfl (lv_at hl 5 rfl) ?_
  refine lw_thrown (R).2.1 C hP hK hl.1 dL_law_1049 (by omega) (by omega) ?_
  refine kt_i (y := nI 0) (rfl) ?_
  refine lv_iload hx hb dL_law_1052 (lv_at hl 1 rfl) ?_
  refine kn_icmp_eq (tgt := 1059) hx hb (by decide) (by decide) dL_law_1054 (by decide) (fun _ => ?_) (fun h => absurd h (by decide))
  refine lv_iload hx hb dL_law_1059 (lv_at hl 1 rfl) ?_
  refine kn_ne (tgt := 1076) hx hb (by decide) dL_law_1061 (by decide) (fun h => absurd h (by decide)) (fun _ => ?_)
  refine lv_aload_n hx hb dL_law_1064 rfl (lv_at hl 4 rfl) ?_
  refine lv_iconst (v := nI 0) hx hb dL_law_1065 (by decide) ?_
  refine kn_lald hx hb hK hP 12 3 rfl rfl (by decide) (by decide) dL_law_1066 ?_
  refine lv_iload hx hb dL_law_1067 (lv_at hl 0 rfl) ?_
  refine lv_i2l hx hb dL_law_1069 rfl ?_
  refine W.lcmp hx hb dL_law_1070 ?_
  refine lv_if_eq (tgt := 1076) hx hb dL_law_1071 (by decide) (fun c_x => ?_) (fun h => absurd (lc_eq (by rw [up_s]; exact congrArg Int32.toInt64 (congrArg nI (R.count hg hw hk false).symm))) h)
  refine lv_goto (tgt := 1745) hx hb dL_law_1076 (by decide) ?_
  refine W.widen (k := cells + 6) (n := slots + 40) (by omega) (by omega) ?_
  exact N R hP hD hS (lv_sub hl [2, 3, 4, 5, 6, 7] rfl)
set_option maxHeartbeats 4000000 in
set_option maxRecDepth 100000 in
theorem cs_count_bad_f {x1 x2 x3 x4 : Int32} (hbad : ¬ (InN 6 x1 ∧ InN 2 x2 ∧ InN 6 x3)) (hz : x4 = 0) (h1 : xs (nI (i + 1)).toNatClampNeg = x1) (h2 : xs (nI (i + 2)).toNatClampNeg = x2) (h3 : xs (nI (i + 3)).toNatClampNeg = x3) (h4 : xs (nI (i + 4)).toNatClampNeg = x4) (R : Rl nb v ln io mv sz mk se pv pd) (C : LwC l p s m meth c b L xs) (hL : L ≤ 2560) (hi : i + 4 < L) (hK : va_K D vwCl (TYL cZ cD cI cJ) s) (hP : va_P D vwCl (WA h0 hn hd hq k0 kv ko ks km kt kp kb qo qd cZ cD cI cJ nb v ln go mw th mv io sz mk se pv pd go mw oL oD) H) (hD : va_D (fun q : Nat => s.heap.size ≤ q) (WA h0 hn hd hq k0 kv ko ks km kt kp kb qo qd cZ cD cI cJ nb v ln go mw th mv io sz mk se pv pd go mw oL oD)) (hS : va_S (fun q : Nat => s.heap.size ≤ q) s.heap H locs) (hl : lv_has ls 9 [(5, .int (nI i)), (4, .ref qd), (3, .ref qo), (2, .ref k0), (1, .ref h0), (0, .ref b)]) (hcc : cells + 6 ≤ 3101) (hss : slots + 40 ≤ 21269) (N : LwN p l e s m below meth c b Q D h0 hn hd hq k0 kv ko ks km kt kp kb qo qd cZ cD cI cJ i (cells + 6) (slots + 40)) : W p l e room_1 s m #[Value.ref b] below meth c H locs cells slots Q (F0 m 971 ls []) := by
  have C0 := C
  obtain ⟨hx, hb, hr, hml, hown, hts, hX, hbl, hlocks, hl0, hZ, hxS, hxD, hxN⟩ := C0
  have hbA : ¬ (fun q : Nat => s.heap.size ≤ q) b := Nat.not_le.mpr hbl
  have hcm : room_1.cells = 3101 := rfl
  have hsm : room_1.slots = 21269 := rfl
  refine lv_aload_n hx hb dL_law_971 rfl (lv_at hl 4 rfl) ?_
  refine lv_aload_n hx hb dL_law_972 rfl (lv_at hl 5 rfl) ?_
  refine lv_iload hx hb dL_law_973 (lv_at hl 0 rfl) ?_
  refine lv_iconst (v := nI 1) hx hb dL_law_975 (by decide) ?_
  refine kn_iadd hx hb dL_law_976 ?_
  refine va_sld hx hb hX hbl hbA hS (sc_in (by omega) hL) dL_law_977 ?_
  refine kt_i (y := x1) h1 ?_
  refine lv_aload_n hx hb dL_law_978 rfl (lv_at hl 5 rfl) ?_
  refine lv_iload hx hb dL_law_979 (lv_at hl 0 rfl) ?_
  refine lv_iconst (v := nI 2) hx hb dL_law_981 (by decide) ?_
  refine kn_iadd hx hb dL_law_982 ?_
  refine va_sld hx hb hX hbl hbA hS (sc_in (by omega) hL) dL_law_983 ?_
  refine kt_i (y := x2) h2 ?_
  refine lv_aload_n hx hb dL_law_984 rfl (lv_at hl 5 rfl) ?_
  refine lv_iload hx hb dL_law_985 (lv_at hl 0 rfl) ?_
  refine lv_iconst (v := nI 3) hx hb dL_law_987 (by decide) ?_
  refine kn_iadd hx hb dL_law_988 ?_
  refine va_sld hx hb hX hbl hbA hS (sc_in (by omega) hL) dL_law_989 ?_
  refine kt_i (y := x3) h3 ?_
  refine lv_aload_n hx hb dL_law_990 rfl (lv_at hl 5 rfl) ?_
  refine lv_iload hx hb dL_law_991 (lv_at hl 0 rfl) ?_
  refine lv_iconst (v := nI 4) hx hb dL_law_993 (by decide) ?_
  refine kn_iadd hx hb dL_law_994 ?_
  refine va_sld hx hb hX hbl hbA hS (sc_in (by omega) hL) dL_law_995 ?_
  refine kt_i (y := x4) h4 ?_
  refine lv_if_eq (tgt := 1003) hx hb dL_law_996 (by decide) (fun c_x => ?_) (fun h => absurd hz h)
  refine lv_iconst (v := nI 0) hx hb dL_law_1003 (by decide) ?_
  refine kt_i (y := b2i false) (by decide) ?_
  refine lv_aload_n hx hb dL_law_1004 rfl (lv_at hl 2 rfl) ?_
  refine lw_wrapL (As := [.ref h0, .int x1, .int x2, .int x3, .int (b2i false), .ref qo]) C hP hD hS hK hl.1 (w_count_bad l D h0 hn hd hq qo cZ cD cI cJ nb v ln go mw oL R.1 hl0 H.size x1 x2 x3 false hbad) (vx_cwSW 6 hts gL_law_L_count rfl rfl rfl (by decide +kernel) ⟨Nat.le_of_ble_eq_true rfl, Nat.le_of_ble_eq_true rfl⟩) rfl dL_law_1005 (by omega) (by omega) (fun H locs hP hD hS => ?_)
  refine lv_istore (lv' := [(6, .int (nI 1)), (5, .int (nI i)), (4, .ref qd), (3, .ref qo), (2, .ref k0), (1, .ref h0), (0, .ref b)]) hx hb dL_law_1008 hl (by decide) rfl (fun ls hl => ?_)
  refine lv_aload_n hx hb dL_law_1010 rfl (lv_at hl 4 rfl) ?_
  refine lv_aload_n hx hb dL_law_1011 rfl (lv_at hl 6 rfl) ?_
  refine lv_iload hx hb dL_law_1012 (lv_at hl 1 rfl) ?_
  refine lv_iconst (v := nI 1) hx hb dL_law_1014 (by decide) ?_
  refine kn_iadd hx hb dL_law_1015 ?_
  refine va_sld hx hb hX hbl hbA hS (sc_in (by omega) hL) dL_law_1016 ?_
  refine kt_i (y := x1) h1 ?_
  refine lv_aload_n hx hb dL_law_1017 rfl (lv_at hl 6 rfl) ?_
  refine lv_iload hx hb dL_law_1018 (lv_at hl 1 rfl) ?_
  refine lv_iconst (v := nI 2) hx hb dL_law_1020 (by decide) ?_
  refine kn_iadd hx hb dL_law_1021 ?_
  refine va_sld hx hb hX hbl hbA hS (sc_in (by omega) hL) dL_law_1022 ?_
  refine kt_i (y := x2) h2 ?_
  refine lv_aload_n hx hb dL_law_1023 rfl (lv_at hl 6 rfl) ?_
  refine lv_iload hx hb dL_law_1024 (lv_at hl 1 rfl) ?_
  refine lv_iconst (v := nI 3) hx hb dL_law_1026 (by decide) ?_
  refine kn_iadd hx hb dL_law_1027 ?_
  refine va_sld hx hb hX hbl hbA hS (sc_in (by omega) hL) dL_law_1028 ?_
  refine kt_i (y := x3) h3 ?_
  refine lv_aload_n hx hb dL_law_1029 rfl (lv_at hl 6 rfl) ?_
  refine lv_iload hx hb dL_law_1030 (lv_at hl 1 rfl) ?_
  refine lv_iconst (v := nI 4) hx hb dL_law_1032 (by decide) ?_
  refine kn_iadd hx hb dL_law_1033 ?_
  refine va_sld hx hb hX hbl hbA hS (sc_in (by omega) hL) dL_law_1034 ?_
  refine kt_i (y := x4) h4 ?_
  refine lv_if_eq (tgt := 1042) hx hb dL_law_1035 (by decide) (fun c_x => ?_) (fun h => absurd hz h)
  refine lv_iconst (v := nI 0) hx hb dL_law_1042 (by decide) ?_
  refine kt_i (y := b2i false) (by decide) ?_
  refine lw_modi (As := [.int x1, .int x2, .int x3, .int (b2i false)]) C hP hD hS hK hl.1 (c_X1_count_bad l D k0 kv ko ks km kt kp kb cZ cD cI th mv io sz mk se pv pd go mw R.2.1 H.size x1 x2 x3 false hbad) (cwV 4 hts gL_law_X1_count rfl rfl rfl (by decide +kernel) ⟨Nat.le_of_ble_eq_true rfl, Nat.le_of_ble_eq_true rfl⟩) rfl dL_law_1043 (by omega) (by omega) (fun H locs hP hD hS => ?_)
  refine lv_istore (lv' := [(7, .int (nI 0)), (6, .int (nI 1)), (5, .int (nI i)), (4, .ref qd), (3, .ref qo), (2, .ref k0), (1, .ref h0), (0, .ref b)]) hx hb dL_law_1046 hl (by decide) rfl (fun ls hl => ?_)
  refine lv_aload_n hx hb dL_law_1048 rfl (lv_at hl 5 rfl) ?_
  refine lw_thrown (R).2.1 C hP hK hl.1 dL_law_1049 (by omega) (by omega) ?_
  refine kt_i (y := nI 1) (rfl) ?_
  refine lv_iload hx hb dL_law_1052 (lv_at hl 1 rfl) ?_
  refine kn_icmp_eq (tgt := 1059) hx hb (by decide) (by decide) dL_law_1054 (by decide) (fun _ => ?_) (fun h => absurd h (by decide))
  refine lv_iload hx hb dL_law_1059 (lv_at hl 1 rfl) ?_
  refine kn_ne (tgt := 1076) hx hb (by decide) dL_law_1061 (by decide) (fun _ => ?_) (fun h => absurd h (by decide))
  refine lv_goto (tgt := 1745) hx hb dL_law_1076 (by decide) ?_
  refine W.widen (k := cells + 6) (n := slots + 40) (by omega) (by omega) ?_
  exact N R hP hD hS (lv_sub hl [2, 3, 4, 5, 6, 7] rfl)
set_option maxHeartbeats 4000000 in
set_option maxRecDepth 100000 in
theorem cs_holds {g : Nat} (hg : g < 6) {h : Nat} (hh : h < 6) {w : Nat} (hw : w < 2) {k : Nat} (hk : k < 6) (h1 : xs (nI (i + 1)).toNatClampNeg = nI g) (h2 : xs (nI (i + 2)).toNatClampNeg = nI h) (h3 : xs (nI (i + 3)).toNatClampNeg = nI w) (h4 : xs (nI (i + 4)).toNatClampNeg = nI k) (R : Rl nb v ln io mv sz mk se pv pd) (C : LwC l p s m meth c b L xs) (hL : L ≤ 2560) (hi : i + 4 < L) (hK : va_K D vwCl (TYL cZ cD cI cJ) s) (hP : va_P D vwCl (WA h0 hn hd hq k0 kv ko ks km kt kp kb qo qd cZ cD cI cJ nb v ln go mw th mv io sz mk se pv pd go mw oL oD) H) (hD : va_D (fun q : Nat => s.heap.size ≤ q) (WA h0 hn hd hq k0 kv ko ks km kt kp kb qo qd cZ cD cI cJ nb v ln go mw th mv io sz mk se pv pd go mw oL oD)) (hS : va_S (fun q : Nat => s.heap.size ≤ q) s.heap H locs) (hl : lv_has ls 9 [(5, .int (nI i)), (4, .ref qd), (3, .ref qo), (2, .ref k0), (1, .ref h0), (0, .ref b)]) (hcc : cells + 6 ≤ 3101) (hss : slots + 40 ≤ 21269) (N : LwN p l e s m below meth c b Q D h0 hn hd hq k0 kv ko ks km kt kp kb qo qd cZ cD cI cJ i (cells + 6) (slots + 40)) : W p l e room_1 s m #[Value.ref b] below meth c H locs cells slots Q (F0 m 1079 ls []) := by
  have C0 := C
  obtain ⟨hx, hb, hr, hml, hown, hts, hX, hbl, hlocks, hl0, hZ, hxS, hxD, hxN⟩ := C0
  have hbA : ¬ (fun q : Nat => s.heap.size ≤ q) b := Nat.not_le.mpr hbl
  have hcm : room_1.cells = 3101 := rfl
  have hsm : room_1.slots = 21269 := rfl
  refine lv_aload_n hx hb dL_law_1079 rfl (lv_at hl 4 rfl) ?_
  refine lv_aload_n hx hb dL_law_1080 rfl (lv_at hl 5 rfl) ?_
  refine lv_iload hx hb dL_law_1081 (lv_at hl 0 rfl) ?_
  refine lv_iconst (v := nI 1) hx hb dL_law_1083 (by decide) ?_
  refine kn_iadd hx hb dL_law_1084 ?_
  refine va_sld hx hb hX hbl hbA hS (sc_in (by omega) hL) dL_law_1085 ?_
  refine kt_i (y := nI g) h1 ?_
  refine lv_aload_n hx hb dL_law_1086 rfl (lv_at hl 5 rfl) ?_
  refine lv_iload hx hb dL_law_1087 (lv_at hl 0 rfl) ?_
  refine lv_iconst (v := nI 2) hx hb dL_law_1089 (by decide) ?_
  refine kn_iadd hx hb dL_law_1090 ?_
  refine va_sld hx hb hX hbl hbA hS (sc_in (by omega) hL) dL_law_1091 ?_
  refine kt_i (y := nI h) h2 ?_
  refine lv_aload_n hx hb dL_law_1092 rfl (lv_at hl 5 rfl) ?_
  refine lv_iload hx hb dL_law_1093 (lv_at hl 0 rfl) ?_
  refine lv_iconst (v := nI 3) hx hb dL_law_1095 (by decide) ?_
  refine kn_iadd hx hb dL_law_1096 ?_
  refine va_sld hx hb hX hbl hbA hS (sc_in (by omega) hL) dL_law_1097 ?_
  refine kt_i (y := nI w) h3 ?_
  refine lv_aload_n hx hb dL_law_1098 rfl (lv_at hl 5 rfl) ?_
  refine lv_iload hx hb dL_law_1099 (lv_at hl 0 rfl) ?_
  refine lv_iconst (v := nI 4) hx hb dL_law_1101 (by decide) ?_
  refine kn_iadd hx hb dL_law_1102 ?_
  refine va_sld hx hb hX hbl hbA hS (sc_in (by omega) hL) dL_law_1103 ?_
  refine kt_i (y := nI k) h4 ?_
  refine lv_aload_n hx hb dL_law_1104 rfl (lv_at hl 2 rfl) ?_
  refine lw_wrapL (As := [.ref h0, .int (nI g), .int (nI h), .int (nI w), .int (nI k), .ref qo]) C hP hD hS hK hl.1 (w_holds l D h0 hn hd hq qo cZ cD cI cJ nb v ln go mw oL R.1 hl0 H.size g h w k hg hh hw hk) (vx_cwSW 6 hts gL_law_L_holds rfl rfl rfl (by decide +kernel) ⟨Nat.le_of_ble_eq_true rfl, Nat.le_of_ble_eq_true rfl⟩) rfl dL_law_1105 (by omega) (by omega) (fun H locs hP hD hS => ?_)
  refine lv_istore (lv' := [(6, .int (nI 0)), (5, .int (nI i)), (4, .ref qd), (3, .ref qo), (2, .ref k0), (1, .ref h0), (0, .ref b)]) hx hb dL_law_1108 hl (by decide) rfl (fun ls hl => ?_)
  refine lv_aload_n hx hb dL_law_1110 rfl (lv_at hl 4 rfl) ?_
  refine lv_aload_n hx hb dL_law_1111 rfl (lv_at hl 6 rfl) ?_
  refine lv_iload hx hb dL_law_1112 (lv_at hl 1 rfl) ?_
  refine lv_iconst (v := nI 1) hx hb dL_law_1114 (by decide) ?_
  refine kn_iadd hx hb dL_law_1115 ?_
  refine va_sld hx hb hX hbl hbA hS (sc_in (by omega) hL) dL_law_1116 ?_
  refine kt_i (y := nI g) h1 ?_
  refine lv_aload_n hx hb dL_law_1117 rfl (lv_at hl 6 rfl) ?_
  refine lv_iload hx hb dL_law_1118 (lv_at hl 1 rfl) ?_
  refine lv_iconst (v := nI 2) hx hb dL_law_1120 (by decide) ?_
  refine kn_iadd hx hb dL_law_1121 ?_
  refine va_sld hx hb hX hbl hbA hS (sc_in (by omega) hL) dL_law_1122 ?_
  refine kt_i (y := nI h) h2 ?_
  refine lv_aload_n hx hb dL_law_1123 rfl (lv_at hl 6 rfl) ?_
  refine lv_iload hx hb dL_law_1124 (lv_at hl 1 rfl) ?_
  refine lv_iconst (v := nI 3) hx hb dL_law_1126 (by decide) ?_
  refine kn_iadd hx hb dL_law_1127 ?_
  refine va_sld hx hb hX hbl hbA hS (sc_in (by omega) hL) dL_law_1128 ?_
  refine kt_i (y := nI w) h3 ?_
  refine lv_aload_n hx hb dL_law_1129 rfl (lv_at hl 6 rfl) ?_
  refine lv_iload hx hb dL_law_1130 (lv_at hl 1 rfl) ?_
  refine lv_iconst (v := nI 4) hx hb dL_law_1132 (by decide) ?_
  refine kn_iadd hx hb dL_law_1133 ?_
  refine va_sld hx hb hX hbl hbA hS (sc_in (by omega) hL) dL_law_1134 ?_
  refine kt_i (y := nI k) h4 ?_
  refine lw_modi (As := [.int (nI g), .int (nI h), .int (nI w), .int (nI k)]) C hP hD hS hK hl.1 (c_X1_holds l D k0 kv ko ks km kt kp kb cZ cD cI th mv io sz mk se pv pd go mw R.2.1 H.size g h w k hg hh hw hk) (cwV 4 hts gL_law_X1_holds rfl rfl rfl (by decide +kernel) ⟨Nat.le_of_ble_eq_true rfl, Nat.le_of_ble_eq_true rfl⟩) rfl dL_law_1135 (by omega) (by omega) (fun H locs hP hD hS => ?_)
  refine lv_istore (lv' := [(7, .int (b2i (isW k (wy (lo io sz (2 * g + w) || lo io sz (2 * h + w)) (lw mv sz (2 * g + w)) (lw mv sz (2 * h + w)))))), (6, .int (nI 0)), (5, .int (nI i)), (4, .ref qd), (3, .ref qo), (2, .ref k0), (1, .ref h0), (0, .ref b)]) hx hb dL_law_1138 hl (by decide) rfl (fun ls hl => ?_)
  refine lv_aload_n hx hb dL_law_1140 rfl (lv_at hl 5 rfl) ?_
  refine lw_thrown (R).2.1 C hP hK hl.1 dL_law_1141 (by omega) (by omega) ?_
  refine kt_i (y := nI 0) (rfl) ?_
  refine lv_iload hx hb dL_law_1144 (lv_at hl 1 rfl) ?_
  refine kn_icmp_eq (tgt := 1151) hx hb (by decide) (by decide) dL_law_1146 (by decide) (fun _ => ?_) (fun h => absurd h (by decide))
  refine lv_iload hx hb dL_law_1151 (lv_at hl 1 rfl) ?_
  refine kn_ne (tgt := 1175) hx hb (by decide) dL_law_1153 (by decide) (fun h => absurd h (by decide)) (fun _ => ?_)
  refine lv_aload_n hx hb dL_law_1156 rfl (lv_at hl 4 rfl) ?_
  refine lv_iconst (v := nI 0) hx hb dL_law_1157 (by decide) ?_
  refine kn_lald hx hb hK hP 12 3 rfl rfl (by decide) (by decide) dL_law_1158 ?_
  refine lv_iload hx hb dL_law_1159 (lv_at hl 0 rfl) ?_
  refine kb_eq (tgt := 1168) hx hb dL_law_1161 (by decide) (fun c_1 => ?_) (fun c_1 => ?_)
  · refine lv_lconst (v := 0) hx hb dL_law_1168 (by decide) ?_
    refine W.lcmp hx hb dL_law_1169 ?_
    refine lv_if_eq (tgt := 1175) hx hb dL_law_1170 (by decide) (fun c_x => ?_) (fun h => absurd (lc_eq (by rw [up_s, ← R.holds hg hh hw hk, c_1]; rfl)) h)
    refine lv_goto (tgt := 1745) hx hb dL_law_1175 (by decide) ?_
    refine W.widen (k := cells + 6) (n := slots + 40) (by omega) (by omega) ?_
    exact N R hP hD hS (lv_sub hl [2, 3, 4, 5, 6, 7] rfl)
  · refine lv_lconst (v := 1) hx hb dL_law_1164 (by decide) ?_
    refine lv_goto (tgt := 1169) hx hb dL_law_1165 (by decide) ?_
    refine W.lcmp hx hb dL_law_1169 ?_
    refine lv_if_eq (tgt := 1175) hx hb dL_law_1170 (by decide) (fun c_x => ?_) (fun h => absurd (lc_eq (by rw [up_s, ← R.holds hg hh hw hk, c_1]; rfl)) h)
    refine lv_goto (tgt := 1745) hx hb dL_law_1175 (by decide) ?_
    refine W.widen (k := cells + 6) (n := slots + 40) (by omega) (by omega) ?_
    exact N R hP hD hS (lv_sub hl [2, 3, 4, 5, 6, 7] rfl)
set_option maxHeartbeats 4000000 in
set_option maxRecDepth 100000 in
theorem cs_holds_bad {x1 x2 x3 x4 : Int32} (hbad : ¬ (InN 6 x1 ∧ InN 6 x2 ∧ InN 2 x3 ∧ InN 6 x4)) (h1 : xs (nI (i + 1)).toNatClampNeg = x1) (h2 : xs (nI (i + 2)).toNatClampNeg = x2) (h3 : xs (nI (i + 3)).toNatClampNeg = x3) (h4 : xs (nI (i + 4)).toNatClampNeg = x4) (R : Rl nb v ln io mv sz mk se pv pd) (C : LwC l p s m meth c b L xs) (hL : L ≤ 2560) (hi : i + 4 < L) (hK : va_K D vwCl (TYL cZ cD cI cJ) s) (hP : va_P D vwCl (WA h0 hn hd hq k0 kv ko ks km kt kp kb qo qd cZ cD cI cJ nb v ln go mw th mv io sz mk se pv pd go mw oL oD) H) (hD : va_D (fun q : Nat => s.heap.size ≤ q) (WA h0 hn hd hq k0 kv ko ks km kt kp kb qo qd cZ cD cI cJ nb v ln go mw th mv io sz mk se pv pd go mw oL oD)) (hS : va_S (fun q : Nat => s.heap.size ≤ q) s.heap H locs) (hl : lv_has ls 9 [(5, .int (nI i)), (4, .ref qd), (3, .ref qo), (2, .ref k0), (1, .ref h0), (0, .ref b)]) (hcc : cells + 6 ≤ 3101) (hss : slots + 40 ≤ 21269) (N : LwN p l e s m below meth c b Q D h0 hn hd hq k0 kv ko ks km kt kp kb qo qd cZ cD cI cJ i (cells + 6) (slots + 40)) : W p l e room_1 s m #[Value.ref b] below meth c H locs cells slots Q (F0 m 1079 ls []) := by
  have C0 := C
  obtain ⟨hx, hb, hr, hml, hown, hts, hX, hbl, hlocks, hl0, hZ, hxS, hxD, hxN⟩ := C0
  have hbA : ¬ (fun q : Nat => s.heap.size ≤ q) b := Nat.not_le.mpr hbl
  have hcm : room_1.cells = 3101 := rfl
  have hsm : room_1.slots = 21269 := rfl
  refine lv_aload_n hx hb dL_law_1079 rfl (lv_at hl 4 rfl) ?_
  refine lv_aload_n hx hb dL_law_1080 rfl (lv_at hl 5 rfl) ?_
  refine lv_iload hx hb dL_law_1081 (lv_at hl 0 rfl) ?_
  refine lv_iconst (v := nI 1) hx hb dL_law_1083 (by decide) ?_
  refine kn_iadd hx hb dL_law_1084 ?_
  refine va_sld hx hb hX hbl hbA hS (sc_in (by omega) hL) dL_law_1085 ?_
  refine kt_i (y := x1) h1 ?_
  refine lv_aload_n hx hb dL_law_1086 rfl (lv_at hl 5 rfl) ?_
  refine lv_iload hx hb dL_law_1087 (lv_at hl 0 rfl) ?_
  refine lv_iconst (v := nI 2) hx hb dL_law_1089 (by decide) ?_
  refine kn_iadd hx hb dL_law_1090 ?_
  refine va_sld hx hb hX hbl hbA hS (sc_in (by omega) hL) dL_law_1091 ?_
  refine kt_i (y := x2) h2 ?_
  refine lv_aload_n hx hb dL_law_1092 rfl (lv_at hl 5 rfl) ?_
  refine lv_iload hx hb dL_law_1093 (lv_at hl 0 rfl) ?_
  refine lv_iconst (v := nI 3) hx hb dL_law_1095 (by decide) ?_
  refine kn_iadd hx hb dL_law_1096 ?_
  refine va_sld hx hb hX hbl hbA hS (sc_in (by omega) hL) dL_law_1097 ?_
  refine kt_i (y := x3) h3 ?_
  refine lv_aload_n hx hb dL_law_1098 rfl (lv_at hl 5 rfl) ?_
  refine lv_iload hx hb dL_law_1099 (lv_at hl 0 rfl) ?_
  refine lv_iconst (v := nI 4) hx hb dL_law_1101 (by decide) ?_
  refine kn_iadd hx hb dL_law_1102 ?_
  refine va_sld hx hb hX hbl hbA hS (sc_in (by omega) hL) dL_law_1103 ?_
  refine kt_i (y := x4) h4 ?_
  refine lv_aload_n hx hb dL_law_1104 rfl (lv_at hl 2 rfl) ?_
  refine lw_wrapL (As := [.ref h0, .int x1, .int x2, .int x3, .int x4, .ref qo]) C hP hD hS hK hl.1 (w_holds_bad l D h0 hn hd hq qo cZ cD cI cJ nb v ln go mw oL R.1 hl0 H.size x1 x2 x3 x4 hbad) (vx_cwSW 6 hts gL_law_L_holds rfl rfl rfl (by decide +kernel) ⟨Nat.le_of_ble_eq_true rfl, Nat.le_of_ble_eq_true rfl⟩) rfl dL_law_1105 (by omega) (by omega) (fun H locs hP hD hS => ?_)
  refine lv_istore (lv' := [(6, .int (nI 1)), (5, .int (nI i)), (4, .ref qd), (3, .ref qo), (2, .ref k0), (1, .ref h0), (0, .ref b)]) hx hb dL_law_1108 hl (by decide) rfl (fun ls hl => ?_)
  refine lv_aload_n hx hb dL_law_1110 rfl (lv_at hl 4 rfl) ?_
  refine lv_aload_n hx hb dL_law_1111 rfl (lv_at hl 6 rfl) ?_
  refine lv_iload hx hb dL_law_1112 (lv_at hl 1 rfl) ?_
  refine lv_iconst (v := nI 1) hx hb dL_law_1114 (by decide) ?_
  refine kn_iadd hx hb dL_law_1115 ?_
  refine va_sld hx hb hX hbl hbA hS (sc_in (by omega) hL) dL_law_1116 ?_
  refine kt_i (y := x1) h1 ?_
  refine lv_aload_n hx hb dL_law_1117 rfl (lv_at hl 6 rfl) ?_
  refine lv_iload hx hb dL_law_1118 (lv_at hl 1 rfl) ?_
  refine lv_iconst (v := nI 2) hx hb dL_law_1120 (by decide) ?_
  refine kn_iadd hx hb dL_law_1121 ?_
  refine va_sld hx hb hX hbl hbA hS (sc_in (by omega) hL) dL_law_1122 ?_
  refine kt_i (y := x2) h2 ?_
  refine lv_aload_n hx hb dL_law_1123 rfl (lv_at hl 6 rfl) ?_
  refine lv_iload hx hb dL_law_1124 (lv_at hl 1 rfl) ?_
  refine lv_iconst (v := nI 3) hx hb dL_law_1126 (by decide) ?_
  refine kn_iadd hx hb dL_law_1127 ?_
  refine va_sld hx hb hX hbl hbA hS (sc_in (by omega) hL) dL_law_1128 ?_
  refine kt_i (y := x3) h3 ?_
  refine lv_aload_n hx hb dL_law_1129 rfl (lv_at hl 6 rfl) ?_
  refine lv_iload hx hb dL_law_1130 (lv_at hl 1 rfl) ?_
  refine lv_iconst (v := nI 4) hx hb dL_law_1132 (by decide) ?_
  refine kn_iadd hx hb dL_law_1133 ?_
  refine va_sld hx hb hX hbl hbA hS (sc_in (by omega) hL) dL_law_1134 ?_
  refine kt_i (y := x4) h4 ?_
  refine lw_modi (As := [.int x1, .int x2, .int x3, .int x4]) C hP hD hS hK hl.1 (c_X1_holds_bad l D k0 kv ko ks km kt kp kb cZ cD cI th mv io sz mk se pv pd go mw R.2.1 H.size x1 x2 x3 x4 hbad) (cwV 4 hts gL_law_X1_holds rfl rfl rfl (by decide +kernel) ⟨Nat.le_of_ble_eq_true rfl, Nat.le_of_ble_eq_true rfl⟩) rfl dL_law_1135 (by omega) (by omega) (fun H locs hP hD hS => ?_)
  refine lv_istore (lv' := [(7, .int (b2i false)), (6, .int (nI 1)), (5, .int (nI i)), (4, .ref qd), (3, .ref qo), (2, .ref k0), (1, .ref h0), (0, .ref b)]) hx hb dL_law_1138 hl (by decide) rfl (fun ls hl => ?_)
  refine lv_aload_n hx hb dL_law_1140 rfl (lv_at hl 5 rfl) ?_
  refine lw_thrown (R).2.1 C hP hK hl.1 dL_law_1141 (by omega) (by omega) ?_
  refine kt_i (y := nI 1) (rfl) ?_
  refine lv_iload hx hb dL_law_1144 (lv_at hl 1 rfl) ?_
  refine kn_icmp_eq (tgt := 1151) hx hb (by decide) (by decide) dL_law_1146 (by decide) (fun _ => ?_) (fun h => absurd h (by decide))
  refine lv_iload hx hb dL_law_1151 (lv_at hl 1 rfl) ?_
  refine kn_ne (tgt := 1175) hx hb (by decide) dL_law_1153 (by decide) (fun _ => ?_) (fun h => absurd h (by decide))
  refine lv_goto (tgt := 1745) hx hb dL_law_1175 (by decide) ?_
  refine W.widen (k := cells + 6) (n := slots + 40) (by omega) (by omega) ?_
  exact N R hP hD hS (lv_sub hl [2, 3, 4, 5, 6, 7] rfl)
set_option maxHeartbeats 4000000 in
set_option maxRecDepth 100000 in
theorem cs_pick {g : Nat} (hg : g < 6) {h : Nat} (hh : h < 6) {w : Nat} (hw : w < 2) {k : Nat} (hk : k < 6) (h1 : xs (nI (i + 1)).toNatClampNeg = nI g) (h2 : xs (nI (i + 2)).toNatClampNeg = nI h) (h3 : xs (nI (i + 3)).toNatClampNeg = nI w) (h4 : xs (nI (i + 4)).toNatClampNeg = nI k) (R : Rl nb v ln io mv sz mk se pv pd) (C : LwC l p s m meth c b L xs) (hL : L ≤ 2560) (hi : i + 4 < L) (hK : va_K D vwCl (TYL cZ cD cI cJ) s) (hP : va_P D vwCl (WA h0 hn hd hq k0 kv ko ks km kt kp kb qo qd cZ cD cI cJ nb v ln go mw th mv io sz mk se pv pd go mw oL oD) H) (hD : va_D (fun q : Nat => s.heap.size ≤ q) (WA h0 hn hd hq k0 kv ko ks km kt kp kb qo qd cZ cD cI cJ nb v ln go mw th mv io sz mk se pv pd go mw oL oD)) (hS : va_S (fun q : Nat => s.heap.size ≤ q) s.heap H locs) (hl : lv_has ls 9 [(5, .int (nI i)), (4, .ref qd), (3, .ref qo), (2, .ref k0), (1, .ref h0), (0, .ref b)]) (hcc : cells + 6 ≤ 3101) (hss : slots + 40 ≤ 21269) (N : LwN p l e s m below meth c b Q D h0 hn hd hq k0 kv ko ks km kt kp kb qo qd cZ cD cI cJ i (cells + 6) (slots + 40)) : W p l e room_1 s m #[Value.ref b] below meth c H locs cells slots Q (F0 m 1178 ls []) := by
  have C0 := C
  obtain ⟨hx, hb, hr, hml, hown, hts, hX, hbl, hlocks, hl0, hZ, hxS, hxD, hxN⟩ := C0
  have hbA : ¬ (fun q : Nat => s.heap.size ≤ q) b := Nat.not_le.mpr hbl
  have hcm : room_1.cells = 3101 := rfl
  have hsm : room_1.slots = 21269 := rfl
  refine lv_aload_n hx hb dL_law_1178 rfl (lv_at hl 4 rfl) ?_
  refine lv_aload_n hx hb dL_law_1179 rfl (lv_at hl 5 rfl) ?_
  refine lv_iload hx hb dL_law_1180 (lv_at hl 0 rfl) ?_
  refine lv_iconst (v := nI 1) hx hb dL_law_1182 (by decide) ?_
  refine kn_iadd hx hb dL_law_1183 ?_
  refine va_sld hx hb hX hbl hbA hS (sc_in (by omega) hL) dL_law_1184 ?_
  refine kt_i (y := nI g) h1 ?_
  refine lv_aload_n hx hb dL_law_1185 rfl (lv_at hl 5 rfl) ?_
  refine lv_iload hx hb dL_law_1186 (lv_at hl 0 rfl) ?_
  refine lv_iconst (v := nI 2) hx hb dL_law_1188 (by decide) ?_
  refine kn_iadd hx hb dL_law_1189 ?_
  refine va_sld hx hb hX hbl hbA hS (sc_in (by omega) hL) dL_law_1190 ?_
  refine kt_i (y := nI h) h2 ?_
  refine lv_aload_n hx hb dL_law_1191 rfl (lv_at hl 5 rfl) ?_
  refine lv_iload hx hb dL_law_1192 (lv_at hl 0 rfl) ?_
  refine lv_iconst (v := nI 3) hx hb dL_law_1194 (by decide) ?_
  refine kn_iadd hx hb dL_law_1195 ?_
  refine va_sld hx hb hX hbl hbA hS (sc_in (by omega) hL) dL_law_1196 ?_
  refine kt_i (y := nI w) h3 ?_
  refine lv_aload_n hx hb dL_law_1197 rfl (lv_at hl 5 rfl) ?_
  refine lv_iload hx hb dL_law_1198 (lv_at hl 0 rfl) ?_
  refine lv_iconst (v := nI 4) hx hb dL_law_1200 (by decide) ?_
  refine kn_iadd hx hb dL_law_1201 ?_
  refine va_sld hx hb hX hbl hbA hS (sc_in (by omega) hL) dL_law_1202 ?_
  refine kt_i (y := nI k) h4 ?_
  refine lv_aload_n hx hb dL_law_1203 rfl (lv_at hl 2 rfl) ?_
  refine lw_wrapL (As := [.ref h0, .int (nI g), .int (nI h), .int (nI w), .int (nI k), .ref qo]) C hP hD hS hK hl.1 (w_pick l D h0 hn hd hq qo cZ cD cI cJ nb v ln go mw oL R.1 hl0 H.size g h w k hg hh hw hk) (vx_cwSW 6 hts gL_law_L_pick rfl rfl rfl (by decide +kernel) ⟨Nat.le_of_ble_eq_true rfl, Nat.le_of_ble_eq_true rfl⟩) rfl dL_law_1204 (by omega) (by omega) (fun H locs hP hD hS => ?_)
  refine lv_istore (lv' := [(6, .int (nI 0)), (5, .int (nI i)), (4, .ref qd), (3, .ref qo), (2, .ref k0), (1, .ref h0), (0, .ref b)]) hx hb dL_law_1207 hl (by decide) rfl (fun ls hl => ?_)
  refine lv_aload_n hx hb dL_law_1209 rfl (lv_at hl 4 rfl) ?_
  refine lv_aload_n hx hb dL_law_1210 rfl (lv_at hl 6 rfl) ?_
  refine lv_iload hx hb dL_law_1211 (lv_at hl 1 rfl) ?_
  refine lv_iconst (v := nI 1) hx hb dL_law_1213 (by decide) ?_
  refine kn_iadd hx hb dL_law_1214 ?_
  refine va_sld hx hb hX hbl hbA hS (sc_in (by omega) hL) dL_law_1215 ?_
  refine kt_i (y := nI g) h1 ?_
  refine lv_aload_n hx hb dL_law_1216 rfl (lv_at hl 6 rfl) ?_
  refine lv_iload hx hb dL_law_1217 (lv_at hl 1 rfl) ?_
  refine lv_iconst (v := nI 2) hx hb dL_law_1219 (by decide) ?_
  refine kn_iadd hx hb dL_law_1220 ?_
  refine va_sld hx hb hX hbl hbA hS (sc_in (by omega) hL) dL_law_1221 ?_
  refine kt_i (y := nI h) h2 ?_
  refine lv_aload_n hx hb dL_law_1222 rfl (lv_at hl 6 rfl) ?_
  refine lv_iload hx hb dL_law_1223 (lv_at hl 1 rfl) ?_
  refine lv_iconst (v := nI 3) hx hb dL_law_1225 (by decide) ?_
  refine kn_iadd hx hb dL_law_1226 ?_
  refine va_sld hx hb hX hbl hbA hS (sc_in (by omega) hL) dL_law_1227 ?_
  refine kt_i (y := nI w) h3 ?_
  refine lv_aload_n hx hb dL_law_1228 rfl (lv_at hl 6 rfl) ?_
  refine lv_iload hx hb dL_law_1229 (lv_at hl 1 rfl) ?_
  refine lv_iconst (v := nI 4) hx hb dL_law_1231 (by decide) ?_
  refine kn_iadd hx hb dL_law_1232 ?_
  refine va_sld hx hb hX hbl hbA hS (sc_in (by omega) hL) dL_law_1233 ?_
  refine kt_i (y := nI k) h4 ?_
  refine lw_modi (As := [.int (nI g), .int (nI h), .int (nI w), .int (nI k)]) C hP hD hS hK hl.1 (c_X1_pick l D k0 kv ko ks km kt kp kb cZ cD cI th mv io sz mk se pv pd go mw R.2.1 H.size g h w k hg hh hw hk) (cwV 4 hts gL_law_X1_pick rfl rfl rfl (by decide +kernel) ⟨Nat.le_of_ble_eq_true rfl, Nat.le_of_ble_eq_true rfl⟩) rfl dL_law_1234 (by omega) (by omega) (fun H locs hP hD hS => ?_)
  refine lv_istore (lv' := [(7, .int (if isW k (wy (lo io sz (2 * g + w) || lo io sz (2 * h + w)) (lw mv sz (2 * g + w)) (lw mv sz (2 * h + w))) = true then nI g else if isW k (wy (lo io sz (2 * h + w) || lo io sz (2 * g + w)) (lw mv sz (2 * h + w)) (lw mv sz (2 * g + w))) = true then nI h else (-1))), (6, .int (nI 0)), (5, .int (nI i)), (4, .ref qd), (3, .ref qo), (2, .ref k0), (1, .ref h0), (0, .ref b)]) hx hb dL_law_1237 hl (by decide) rfl (fun ls hl => ?_)
  refine lv_aload_n hx hb dL_law_1239 rfl (lv_at hl 5 rfl) ?_
  refine lw_thrown (R).2.1 C hP hK hl.1 dL_law_1240 (by omega) (by omega) ?_
  refine kt_i (y := nI 0) (rfl) ?_
  refine lv_iload hx hb dL_law_1243 (lv_at hl 1 rfl) ?_
  refine kn_icmp_eq (tgt := 1250) hx hb (by decide) (by decide) dL_law_1245 (by decide) (fun _ => ?_) (fun h => absurd h (by decide))
  refine lv_iload hx hb dL_law_1250 (lv_at hl 1 rfl) ?_
  refine kn_ne (tgt := 1267) hx hb (by decide) dL_law_1252 (by decide) (fun h => absurd h (by decide)) (fun _ => ?_)
  refine lv_aload_n hx hb dL_law_1255 rfl (lv_at hl 4 rfl) ?_
  refine lv_iconst (v := nI 0) hx hb dL_law_1256 (by decide) ?_
  refine kn_lald hx hb hK hP 12 3 rfl rfl (by decide) (by decide) dL_law_1257 ?_
  refine lv_iload hx hb dL_law_1258 (lv_at hl 0 rfl) ?_
  refine lv_i2l hx hb dL_law_1260 rfl ?_
  refine W.lcmp hx hb dL_law_1261 ?_
  refine lv_if_eq (tgt := 1267) hx hb dL_law_1262 (by decide) (fun c_x => ?_) (fun h => absurd (lc_eq (by rw [up_s]; exact congrArg Int32.toInt64 (by rw [R.holds hg hh hw hk, R.holds hh hg hw hk]))) h)
  refine lv_goto (tgt := 1745) hx hb dL_law_1267 (by decide) ?_
  refine W.widen (k := cells + 6) (n := slots + 40) (by omega) (by omega) ?_
  exact N R hP hD hS (lv_sub hl [2, 3, 4, 5, 6, 7] rfl)
set_option maxHeartbeats 4000000 in
set_option maxRecDepth 100000 in
theorem cs_pick_bad {x1 x2 x3 x4 : Int32} (hbad : ¬ (InN 6 x1 ∧ InN 6 x2 ∧ InN 2 x3 ∧ InN 6 x4)) (h1 : xs (nI (i + 1)).toNatClampNeg = x1) (h2 : xs (nI (i + 2)).toNatClampNeg = x2) (h3 : xs (nI (i + 3)).toNatClampNeg = x3) (h4 : xs (nI (i + 4)).toNatClampNeg = x4) (R : Rl nb v ln io mv sz mk se pv pd) (C : LwC l p s m meth c b L xs) (hL : L ≤ 2560) (hi : i + 4 < L) (hK : va_K D vwCl (TYL cZ cD cI cJ) s) (hP : va_P D vwCl (WA h0 hn hd hq k0 kv ko ks km kt kp kb qo qd cZ cD cI cJ nb v ln go mw th mv io sz mk se pv pd go mw oL oD) H) (hD : va_D (fun q : Nat => s.heap.size ≤ q) (WA h0 hn hd hq k0 kv ko ks km kt kp kb qo qd cZ cD cI cJ nb v ln go mw th mv io sz mk se pv pd go mw oL oD)) (hS : va_S (fun q : Nat => s.heap.size ≤ q) s.heap H locs) (hl : lv_has ls 9 [(5, .int (nI i)), (4, .ref qd), (3, .ref qo), (2, .ref k0), (1, .ref h0), (0, .ref b)]) (hcc : cells + 6 ≤ 3101) (hss : slots + 40 ≤ 21269) (N : LwN p l e s m below meth c b Q D h0 hn hd hq k0 kv ko ks km kt kp kb qo qd cZ cD cI cJ i (cells + 6) (slots + 40)) : W p l e room_1 s m #[Value.ref b] below meth c H locs cells slots Q (F0 m 1178 ls []) := by
  have C0 := C
  obtain ⟨hx, hb, hr, hml, hown, hts, hX, hbl, hlocks, hl0, hZ, hxS, hxD, hxN⟩ := C0
  have hbA : ¬ (fun q : Nat => s.heap.size ≤ q) b := Nat.not_le.mpr hbl
  have hcm : room_1.cells = 3101 := rfl
  have hsm : room_1.slots = 21269 := rfl
  refine lv_aload_n hx hb dL_law_1178 rfl (lv_at hl 4 rfl) ?_
  refine lv_aload_n hx hb dL_law_1179 rfl (lv_at hl 5 rfl) ?_
  refine lv_iload hx hb dL_law_1180 (lv_at hl 0 rfl) ?_
  refine lv_iconst (v := nI 1) hx hb dL_law_1182 (by decide) ?_
  refine kn_iadd hx hb dL_law_1183 ?_
  refine va_sld hx hb hX hbl hbA hS (sc_in (by omega) hL) dL_law_1184 ?_
  refine kt_i (y := x1) h1 ?_
  refine lv_aload_n hx hb dL_law_1185 rfl (lv_at hl 5 rfl) ?_
  refine lv_iload hx hb dL_law_1186 (lv_at hl 0 rfl) ?_
  refine lv_iconst (v := nI 2) hx hb dL_law_1188 (by decide) ?_
  refine kn_iadd hx hb dL_law_1189 ?_
  refine va_sld hx hb hX hbl hbA hS (sc_in (by omega) hL) dL_law_1190 ?_
  refine kt_i (y := x2) h2 ?_
  refine lv_aload_n hx hb dL_law_1191 rfl (lv_at hl 5 rfl) ?_
  refine lv_iload hx hb dL_law_1192 (lv_at hl 0 rfl) ?_
  refine lv_iconst (v := nI 3) hx hb dL_law_1194 (by decide) ?_
  refine kn_iadd hx hb dL_law_1195 ?_
  refine va_sld hx hb hX hbl hbA hS (sc_in (by omega) hL) dL_law_1196 ?_
  refine kt_i (y := x3) h3 ?_
  refine lv_aload_n hx hb dL_law_1197 rfl (lv_at hl 5 rfl) ?_
  refine lv_iload hx hb dL_law_1198 (lv_at hl 0 rfl) ?_
  refine lv_iconst (v := nI 4) hx hb dL_law_1200 (by decide) ?_
  refine kn_iadd hx hb dL_law_1201 ?_
  refine va_sld hx hb hX hbl hbA hS (sc_in (by omega) hL) dL_law_1202 ?_
  refine kt_i (y := x4) h4 ?_
  refine lv_aload_n hx hb dL_law_1203 rfl (lv_at hl 2 rfl) ?_
  refine lw_wrapL (As := [.ref h0, .int x1, .int x2, .int x3, .int x4, .ref qo]) C hP hD hS hK hl.1 (w_pick_bad l D h0 hn hd hq qo cZ cD cI cJ nb v ln go mw oL R.1 hl0 H.size x1 x2 x3 x4 hbad) (vx_cwSW 6 hts gL_law_L_pick rfl rfl rfl (by decide +kernel) ⟨Nat.le_of_ble_eq_true rfl, Nat.le_of_ble_eq_true rfl⟩) rfl dL_law_1204 (by omega) (by omega) (fun H locs hP hD hS => ?_)
  refine lv_istore (lv' := [(6, .int (nI 1)), (5, .int (nI i)), (4, .ref qd), (3, .ref qo), (2, .ref k0), (1, .ref h0), (0, .ref b)]) hx hb dL_law_1207 hl (by decide) rfl (fun ls hl => ?_)
  refine lv_aload_n hx hb dL_law_1209 rfl (lv_at hl 4 rfl) ?_
  refine lv_aload_n hx hb dL_law_1210 rfl (lv_at hl 6 rfl) ?_
  refine lv_iload hx hb dL_law_1211 (lv_at hl 1 rfl) ?_
  refine lv_iconst (v := nI 1) hx hb dL_law_1213 (by decide) ?_
  refine kn_iadd hx hb dL_law_1214 ?_
  refine va_sld hx hb hX hbl hbA hS (sc_in (by omega) hL) dL_law_1215 ?_
  refine kt_i (y := x1) h1 ?_
  refine lv_aload_n hx hb dL_law_1216 rfl (lv_at hl 6 rfl) ?_
  refine lv_iload hx hb dL_law_1217 (lv_at hl 1 rfl) ?_
  refine lv_iconst (v := nI 2) hx hb dL_law_1219 (by decide) ?_
  refine kn_iadd hx hb dL_law_1220 ?_
  refine va_sld hx hb hX hbl hbA hS (sc_in (by omega) hL) dL_law_1221 ?_
  refine kt_i (y := x2) h2 ?_
  refine lv_aload_n hx hb dL_law_1222 rfl (lv_at hl 6 rfl) ?_
  refine lv_iload hx hb dL_law_1223 (lv_at hl 1 rfl) ?_
  refine lv_iconst (v := nI 3) hx hb dL_law_1225 (by decide) ?_
  refine kn_iadd hx hb dL_law_1226 ?_
  refine va_sld hx hb hX hbl hbA hS (sc_in (by omega) hL) dL_law_1227 ?_
  refine kt_i (y := x3) h3 ?_
  refine lv_aload_n hx hb dL_law_1228 rfl (lv_at hl 6 rfl) ?_
  refine lv_iload hx hb dL_law_1229 (lv_at hl 1 rfl) ?_
  refine lv_iconst (v := nI 4) hx hb dL_law_1231 (by decide) ?_
  refine kn_iadd hx hb dL_law_1232 ?_
  refine va_sld hx hb hX hbl hbA hS (sc_in (by omega) hL) dL_law_1233 ?_
  refine kt_i (y := x4) h4 ?_
  refine lw_modi (As := [.int x1, .int x2, .int x3, .int x4]) C hP hD hS hK hl.1 (c_X1_pick_bad l D k0 kv ko ks km kt kp kb cZ cD cI th mv io sz mk se pv pd go mw R.2.1 H.size x1 x2 x3 x4 hbad) (cwV 4 hts gL_law_X1_pick rfl rfl rfl (by decide +kernel) ⟨Nat.le_of_ble_eq_true rfl, Nat.le_of_ble_eq_true rfl⟩) rfl dL_law_1234 (by omega) (by omega) (fun H locs hP hD hS => ?_)
  refine lv_istore (lv' := [(7, .int (nI 0)), (6, .int (nI 1)), (5, .int (nI i)), (4, .ref qd), (3, .ref qo), (2, .ref k0), (1, .ref h0), (0, .ref b)]) hx hb dL_law_1237 hl (by decide) rfl (fun ls hl => ?_)
  refine lv_aload_n hx hb dL_law_1239 rfl (lv_at hl 5 rfl) ?_
  refine lw_thrown (R).2.1 C hP hK hl.1 dL_law_1240 (by omega) (by omega) ?_
  refine kt_i (y := nI 1) (rfl) ?_
  refine lv_iload hx hb dL_law_1243 (lv_at hl 1 rfl) ?_
  refine kn_icmp_eq (tgt := 1250) hx hb (by decide) (by decide) dL_law_1245 (by decide) (fun _ => ?_) (fun h => absurd h (by decide))
  refine lv_iload hx hb dL_law_1250 (lv_at hl 1 rfl) ?_
  refine kn_ne (tgt := 1267) hx hb (by decide) dL_law_1252 (by decide) (fun _ => ?_) (fun h => absurd h (by decide))
  refine lv_goto (tgt := 1745) hx hb dL_law_1267 (by decide) ?_
  refine W.widen (k := cells + 6) (n := slots + 40) (by omega) (by omega) ?_
  exact N R hP hD hS (lv_sub hl [2, 3, 4, 5, 6, 7] rfl)
set_option maxHeartbeats 4000000 in
set_option maxRecDepth 100000 in
theorem cs_stand {g : Nat} (hg : g < 6) (h1 : xs (nI (i + 1)).toNatClampNeg = nI g) (R : Rl nb v ln io mv sz mk se pv pd) (C : LwC l p s m meth c b L xs) (hL : L ≤ 2560) (hi : i + 4 < L) (hK : va_K D vwCl (TYL cZ cD cI cJ) s) (hP : va_P D vwCl (WA h0 hn hd hq k0 kv ko ks km kt kp kb qo qd cZ cD cI cJ nb v ln go mw th mv io sz mk se pv pd go mw oL oD) H) (hD : va_D (fun q : Nat => s.heap.size ≤ q) (WA h0 hn hd hq k0 kv ko ks km kt kp kb qo qd cZ cD cI cJ nb v ln go mw th mv io sz mk se pv pd go mw oL oD)) (hS : va_S (fun q : Nat => s.heap.size ≤ q) s.heap H locs) (hl : lv_has ls 9 [(5, .int (nI i)), (4, .ref qd), (3, .ref qo), (2, .ref k0), (1, .ref h0), (0, .ref b)]) (hcc : cells + 6 ≤ 3101) (hss : slots + 40 ≤ 21269) (N : LwN p l e s m below meth c b Q D h0 hn hd hq k0 kv ko ks km kt kp kb qo qd cZ cD cI cJ i (cells + 6) (slots + 40)) : W p l e room_1 s m #[Value.ref b] below meth c H locs cells slots Q (F0 m 1270 ls []) := by
  have C0 := C
  obtain ⟨hx, hb, hr, hml, hown, hts, hX, hbl, hlocks, hl0, hZ, hxS, hxD, hxN⟩ := C0
  have hbA : ¬ (fun q : Nat => s.heap.size ≤ q) b := Nat.not_le.mpr hbl
  have hcm : room_1.cells = 3101 := rfl
  have hsm : room_1.slots = 21269 := rfl
  refine lv_aload_n hx hb dL_law_1270 rfl (lv_at hl 4 rfl) ?_
  refine lv_aload_n hx hb dL_law_1271 rfl (lv_at hl 5 rfl) ?_
  refine lv_iload hx hb dL_law_1272 (lv_at hl 0 rfl) ?_
  refine lv_iconst (v := nI 1) hx hb dL_law_1274 (by decide) ?_
  refine kn_iadd hx hb dL_law_1275 ?_
  refine va_sld hx hb hX hbl hbA hS (sc_in (by omega) hL) dL_law_1276 ?_
  refine kt_i (y := nI g) h1 ?_
  refine lv_aload_n hx hb dL_law_1277 rfl (lv_at hl 2 rfl) ?_
  refine lw_wrapL (As := [.ref h0, .int (nI g), .ref qo]) C hP hD hS hK hl.1 (w_stand l D h0 hn hd hq qo cZ cD cI cJ nb v ln go mw oL R.1 hl0 H.size g hg) (vx_cwSW 3 hts gL_law_L_stand rfl rfl rfl (by decide +kernel) ⟨Nat.le_of_ble_eq_true rfl, Nat.le_of_ble_eq_true rfl⟩) rfl dL_law_1278 (by omega) (by omega) (fun H locs hP hD hS => ?_)
  refine lv_istore (lv' := [(6, .int (nI 0)), (5, .int (nI i)), (4, .ref qd), (3, .ref qo), (2, .ref k0), (1, .ref h0), (0, .ref b)]) hx hb dL_law_1281 hl (by decide) rfl (fun ls hl => ?_)
  refine lv_aload_n hx hb dL_law_1283 rfl (lv_at hl 4 rfl) ?_
  refine lv_aload_n hx hb dL_law_1284 rfl (lv_at hl 6 rfl) ?_
  refine lv_iload hx hb dL_law_1285 (lv_at hl 1 rfl) ?_
  refine lv_iconst (v := nI 1) hx hb dL_law_1287 (by decide) ?_
  refine kn_iadd hx hb dL_law_1288 ?_
  refine va_sld hx hb hX hbl hbA hS (sc_in (by omega) hL) dL_law_1289 ?_
  refine kt_i (y := nI g) h1 ?_
  refine lw_modi (As := [.int (nI g)]) C hP hD hS hK hl.1 (c_X1_stand l D k0 kv ko ks km kt kp kb cZ cD cI th mv io sz mk se pv pd go mw R.2.1 H.size g hg) (cwV 1 hts gL_law_X1_stand rfl rfl rfl (by decide +kernel) ⟨Nat.le_of_ble_eq_true rfl, Nat.le_of_ble_eq_true rfl⟩) rfl dL_law_1290 (by omega) (by omega) (fun H locs hP hD hS => ?_)
  refine lv_istore (lv' := [(7, .int (nI (slM io mv sz mk se g + swM io mv sz mk se g))), (6, .int (nI 0)), (5, .int (nI i)), (4, .ref qd), (3, .ref qo), (2, .ref k0), (1, .ref h0), (0, .ref b)]) hx hb dL_law_1293 hl (by decide) rfl (fun ls hl => ?_)
  refine lv_aload_n hx hb dL_law_1295 rfl (lv_at hl 5 rfl) ?_
  refine lw_thrown (R).2.1 C hP hK hl.1 dL_law_1296 (by omega) (by omega) ?_
  refine kt_i (y := nI 0) (rfl) ?_
  refine lv_iload hx hb dL_law_1299 (lv_at hl 1 rfl) ?_
  refine kn_icmp_eq (tgt := 1306) hx hb (by decide) (by decide) dL_law_1301 (by decide) (fun _ => ?_) (fun h => absurd h (by decide))
  refine lv_iload hx hb dL_law_1306 (lv_at hl 1 rfl) ?_
  refine kn_ne (tgt := 1323) hx hb (by decide) dL_law_1308 (by decide) (fun h => absurd h (by decide)) (fun _ => ?_)
  refine lv_aload_n hx hb dL_law_1311 rfl (lv_at hl 4 rfl) ?_
  refine lv_iconst (v := nI 0) hx hb dL_law_1312 (by decide) ?_
  refine kn_lald hx hb hK hP 12 3 rfl rfl (by decide) (by decide) dL_law_1313 ?_
  refine lv_iload hx hb dL_law_1314 (lv_at hl 0 rfl) ?_
  refine lv_i2l hx hb dL_law_1316 rfl ?_
  refine W.lcmp hx hb dL_law_1317 ?_
  refine lv_if_eq (tgt := 1323) hx hb dL_law_1318 (by decide) (fun c_x => ?_) (fun h => absurd (lc_eq (by rw [up_s]; exact congrArg Int32.toInt64 (by rw [R.stand hg]))) h)
  refine lv_goto (tgt := 1745) hx hb dL_law_1323 (by decide) ?_
  refine W.widen (k := cells + 6) (n := slots + 40) (by omega) (by omega) ?_
  exact N R hP hD hS (lv_sub hl [2, 3, 4, 5, 6, 7] rfl)
set_option maxHeartbeats 4000000 in
set_option maxRecDepth 100000 in
theorem cs_stand_bad {x1 : Int32} (hbad : ¬ (InN 6 x1)) (h1 : xs (nI (i + 1)).toNatClampNeg = x1) (R : Rl nb v ln io mv sz mk se pv pd) (C : LwC l p s m meth c b L xs) (hL : L ≤ 2560) (hi : i + 4 < L) (hK : va_K D vwCl (TYL cZ cD cI cJ) s) (hP : va_P D vwCl (WA h0 hn hd hq k0 kv ko ks km kt kp kb qo qd cZ cD cI cJ nb v ln go mw th mv io sz mk se pv pd go mw oL oD) H) (hD : va_D (fun q : Nat => s.heap.size ≤ q) (WA h0 hn hd hq k0 kv ko ks km kt kp kb qo qd cZ cD cI cJ nb v ln go mw th mv io sz mk se pv pd go mw oL oD)) (hS : va_S (fun q : Nat => s.heap.size ≤ q) s.heap H locs) (hl : lv_has ls 9 [(5, .int (nI i)), (4, .ref qd), (3, .ref qo), (2, .ref k0), (1, .ref h0), (0, .ref b)]) (hcc : cells + 6 ≤ 3101) (hss : slots + 40 ≤ 21269) (N : LwN p l e s m below meth c b Q D h0 hn hd hq k0 kv ko ks km kt kp kb qo qd cZ cD cI cJ i (cells + 6) (slots + 40)) : W p l e room_1 s m #[Value.ref b] below meth c H locs cells slots Q (F0 m 1270 ls []) := by
  have C0 := C
  obtain ⟨hx, hb, hr, hml, hown, hts, hX, hbl, hlocks, hl0, hZ, hxS, hxD, hxN⟩ := C0
  have hbA : ¬ (fun q : Nat => s.heap.size ≤ q) b := Nat.not_le.mpr hbl
  have hcm : room_1.cells = 3101 := rfl
  have hsm : room_1.slots = 21269 := rfl
  refine lv_aload_n hx hb dL_law_1270 rfl (lv_at hl 4 rfl) ?_
  refine lv_aload_n hx hb dL_law_1271 rfl (lv_at hl 5 rfl) ?_
  refine lv_iload hx hb dL_law_1272 (lv_at hl 0 rfl) ?_
  refine lv_iconst (v := nI 1) hx hb dL_law_1274 (by decide) ?_
  refine kn_iadd hx hb dL_law_1275 ?_
  refine va_sld hx hb hX hbl hbA hS (sc_in (by omega) hL) dL_law_1276 ?_
  refine kt_i (y := x1) h1 ?_
  refine lv_aload_n hx hb dL_law_1277 rfl (lv_at hl 2 rfl) ?_
  refine lw_wrapL (As := [.ref h0, .int x1, .ref qo]) C hP hD hS hK hl.1 (w_stand_bad l D h0 hn hd hq qo cZ cD cI cJ nb v ln go mw oL R.1 hl0 H.size x1 hbad) (vx_cwSW 3 hts gL_law_L_stand rfl rfl rfl (by decide +kernel) ⟨Nat.le_of_ble_eq_true rfl, Nat.le_of_ble_eq_true rfl⟩) rfl dL_law_1278 (by omega) (by omega) (fun H locs hP hD hS => ?_)
  refine lv_istore (lv' := [(6, .int (nI 1)), (5, .int (nI i)), (4, .ref qd), (3, .ref qo), (2, .ref k0), (1, .ref h0), (0, .ref b)]) hx hb dL_law_1281 hl (by decide) rfl (fun ls hl => ?_)
  refine lv_aload_n hx hb dL_law_1283 rfl (lv_at hl 4 rfl) ?_
  refine lv_aload_n hx hb dL_law_1284 rfl (lv_at hl 6 rfl) ?_
  refine lv_iload hx hb dL_law_1285 (lv_at hl 1 rfl) ?_
  refine lv_iconst (v := nI 1) hx hb dL_law_1287 (by decide) ?_
  refine kn_iadd hx hb dL_law_1288 ?_
  refine va_sld hx hb hX hbl hbA hS (sc_in (by omega) hL) dL_law_1289 ?_
  refine kt_i (y := x1) h1 ?_
  refine lw_modi (As := [.int x1]) C hP hD hS hK hl.1 (c_X1_stand_bad l D k0 kv ko ks km kt kp kb cZ cD cI th mv io sz mk se pv pd go mw R.2.1 H.size x1 hbad) (cwV 1 hts gL_law_X1_stand rfl rfl rfl (by decide +kernel) ⟨Nat.le_of_ble_eq_true rfl, Nat.le_of_ble_eq_true rfl⟩) rfl dL_law_1290 (by omega) (by omega) (fun H locs hP hD hS => ?_)
  refine lv_istore (lv' := [(7, .int (nI 0)), (6, .int (nI 1)), (5, .int (nI i)), (4, .ref qd), (3, .ref qo), (2, .ref k0), (1, .ref h0), (0, .ref b)]) hx hb dL_law_1293 hl (by decide) rfl (fun ls hl => ?_)
  refine lv_aload_n hx hb dL_law_1295 rfl (lv_at hl 5 rfl) ?_
  refine lw_thrown (R).2.1 C hP hK hl.1 dL_law_1296 (by omega) (by omega) ?_
  refine kt_i (y := nI 1) (rfl) ?_
  refine lv_iload hx hb dL_law_1299 (lv_at hl 1 rfl) ?_
  refine kn_icmp_eq (tgt := 1306) hx hb (by decide) (by decide) dL_law_1301 (by decide) (fun _ => ?_) (fun h => absurd h (by decide))
  refine lv_iload hx hb dL_law_1306 (lv_at hl 1 rfl) ?_
  refine kn_ne (tgt := 1323) hx hb (by decide) dL_law_1308 (by decide) (fun _ => ?_) (fun h => absurd h (by decide))
  refine lv_goto (tgt := 1745) hx hb dL_law_1323 (by decide) ?_
  refine W.widen (k := cells + 6) (n := slots + 40) (by omega) (by omega) ?_
  exact N R hP hD hS (lv_sub hl [2, 3, 4, 5, 6, 7] rfl)
set_option maxHeartbeats 4000000 in
set_option maxRecDepth 100000 in
theorem cs_order {k : Nat} (hk : k < 6) (h1 : xs (nI (i + 1)).toNatClampNeg = nI k) (R : Rl nb v ln io mv sz mk se pv pd) (C : LwC l p s m meth c b L xs) (hL : L ≤ 2560) (hi : i + 4 < L) (hK : va_K D vwCl (TYL cZ cD cI cJ) s) (hP : va_P D vwCl (WA h0 hn hd hq k0 kv ko ks km kt kp kb qo qd cZ cD cI cJ nb v ln go mw th mv io sz mk se pv pd go mw oL oD) H) (hD : va_D (fun q : Nat => s.heap.size ≤ q) (WA h0 hn hd hq k0 kv ko ks km kt kp kb qo qd cZ cD cI cJ nb v ln go mw th mv io sz mk se pv pd go mw oL oD)) (hS : va_S (fun q : Nat => s.heap.size ≤ q) s.heap H locs) (hl : lv_has ls 9 [(5, .int (nI i)), (4, .ref qd), (3, .ref qo), (2, .ref k0), (1, .ref h0), (0, .ref b)]) (hcc : cells + 6 ≤ 3101) (hss : slots + 40 ≤ 21269) (N : LwN p l e s m below meth c b Q D h0 hn hd hq k0 kv ko ks km kt kp kb qo qd cZ cD cI cJ i (cells + 6) (slots + 40)) : W p l e room_1 s m #[Value.ref b] below meth c H locs cells slots Q (F0 m 1326 ls []) := by
  have C0 := C
  obtain ⟨hx, hb, hr, hml, hown, hts, hX, hbl, hlocks, hl0, hZ, hxS, hxD, hxN⟩ := C0
  have hbA : ¬ (fun q : Nat => s.heap.size ≤ q) b := Nat.not_le.mpr hbl
  have hcm : room_1.cells = 3101 := rfl
  have hsm : room_1.slots = 21269 := rfl
  refine lv_aload_n hx hb dL_law_1326 rfl (lv_at hl 4 rfl) ?_
  refine lv_aload_n hx hb dL_law_1327 rfl (lv_at hl 5 rfl) ?_
  refine lv_iload hx hb dL_law_1328 (lv_at hl 0 rfl) ?_
  refine lv_iconst (v := nI 1) hx hb dL_law_1330 (by decide) ?_
  refine kn_iadd hx hb dL_law_1331 ?_
  refine va_sld hx hb hX hbl hbA hS (sc_in (by omega) hL) dL_law_1332 ?_
  refine kt_i (y := nI k) h1 ?_
  refine lv_aload_n hx hb dL_law_1333 rfl (lv_at hl 2 rfl) ?_
  refine lw_wrapL (As := [.ref h0, .int (nI k), .ref qo]) C hP hD hS hK hl.1 (w_order l D h0 hn hd hq qo cZ cD cI cJ nb v ln go mw oL R.1 hl0 H.size k hk) (vx_cwSW 3 hts gL_law_L_order rfl rfl rfl (by decide +kernel) ⟨Nat.le_of_ble_eq_true rfl, Nat.le_of_ble_eq_true rfl⟩) rfl dL_law_1334 (by omega) (by omega) (fun H locs hP hD hS => ?_)
  refine lv_istore (lv' := [(6, .int (nI 0)), (5, .int (nI i)), (4, .ref qd), (3, .ref qo), (2, .ref k0), (1, .ref h0), (0, .ref b)]) hx hb dL_law_1337 hl (by decide) rfl (fun ls hl => ?_)
  refine lv_aload_n hx hb dL_law_1339 rfl (lv_at hl 4 rfl) ?_
  refine lv_aload_n hx hb dL_law_1340 rfl (lv_at hl 6 rfl) ?_
  refine lv_iload hx hb dL_law_1341 (lv_at hl 1 rfl) ?_
  refine lv_iconst (v := nI 1) hx hb dL_law_1343 (by decide) ?_
  refine kn_iadd hx hb dL_law_1344 ?_
  refine va_sld hx hb hX hbl hbA hS (sc_in (by omega) hL) dL_law_1345 ?_
  refine kt_i (y := nI k) h1 ?_
  refine lw_modi (As := [.int (nI k)]) C hP hD hS hK hl.1 (c_X1_order l D k0 kv ko ks km kt kp kb cZ cD cI th mv io sz mk se pv pd go mw R.2.1 H.size k hk) (cwV 1 hts gL_law_X1_order rfl rfl rfl (by decide +kernel) ⟨Nat.le_of_ble_eq_true rfl, Nat.le_of_ble_eq_true rfl⟩) rfl dL_law_1346 (by omega) (by omega) (fun H locs hP hD hS => ?_)
  refine lv_istore (lv' := [(7, .int (nI (fM (rkM io mv sz) k 6))), (6, .int (nI 0)), (5, .int (nI i)), (4, .ref qd), (3, .ref qo), (2, .ref k0), (1, .ref h0), (0, .ref b)]) hx hb dL_law_1349 hl (by decide) rfl (fun ls hl => ?_)
  refine lv_aload_n hx hb dL_law_1351 rfl (lv_at hl 5 rfl) ?_
  refine lw_thrown (R).2.1 C hP hK hl.1 dL_law_1352 (by omega) (by omega) ?_
  refine kt_i (y := nI 0) (rfl) ?_
  refine lv_iload hx hb dL_law_1355 (lv_at hl 1 rfl) ?_
  refine kn_icmp_eq (tgt := 1362) hx hb (by decide) (by decide) dL_law_1357 (by decide) (fun _ => ?_) (fun h => absurd h (by decide))
  refine lv_iload hx hb dL_law_1362 (lv_at hl 1 rfl) ?_
  refine kn_ne (tgt := 1379) hx hb (by decide) dL_law_1364 (by decide) (fun h => absurd h (by decide)) (fun _ => ?_)
  refine lv_aload_n hx hb dL_law_1367 rfl (lv_at hl 4 rfl) ?_
  refine lv_iconst (v := nI 0) hx hb dL_law_1368 (by decide) ?_
  refine kn_lald hx hb hK hP 12 3 rfl rfl (by decide) (by decide) dL_law_1369 ?_
  refine lv_iload hx hb dL_law_1370 (lv_at hl 0 rfl) ?_
  refine lv_i2l hx hb dL_law_1372 rfl ?_
  refine W.lcmp hx hb dL_law_1373 ?_
  refine lv_if_eq (tgt := 1379) hx hb dL_law_1374 (by decide) (fun c_x => ?_) (fun h => absurd (lc_eq (by rw [up_s]; exact congrArg Int32.toInt64 (R.order hk))) h)
  refine lv_goto (tgt := 1745) hx hb dL_law_1379 (by decide) ?_
  refine W.widen (k := cells + 6) (n := slots + 40) (by omega) (by omega) ?_
  exact N R hP hD hS (lv_sub hl [2, 3, 4, 5, 6, 7] rfl)
set_option maxHeartbeats 4000000 in
set_option maxRecDepth 100000 in
theorem cs_order_bad {x1 : Int32} (hbad : ¬ (InN 6 x1)) (h1 : xs (nI (i + 1)).toNatClampNeg = x1) (R : Rl nb v ln io mv sz mk se pv pd) (C : LwC l p s m meth c b L xs) (hL : L ≤ 2560) (hi : i + 4 < L) (hK : va_K D vwCl (TYL cZ cD cI cJ) s) (hP : va_P D vwCl (WA h0 hn hd hq k0 kv ko ks km kt kp kb qo qd cZ cD cI cJ nb v ln go mw th mv io sz mk se pv pd go mw oL oD) H) (hD : va_D (fun q : Nat => s.heap.size ≤ q) (WA h0 hn hd hq k0 kv ko ks km kt kp kb qo qd cZ cD cI cJ nb v ln go mw th mv io sz mk se pv pd go mw oL oD)) (hS : va_S (fun q : Nat => s.heap.size ≤ q) s.heap H locs) (hl : lv_has ls 9 [(5, .int (nI i)), (4, .ref qd), (3, .ref qo), (2, .ref k0), (1, .ref h0), (0, .ref b)]) (hcc : cells + 6 ≤ 3101) (hss : slots + 40 ≤ 21269) (N : LwN p l e s m below meth c b Q D h0 hn hd hq k0 kv ko ks km kt kp kb qo qd cZ cD cI cJ i (cells + 6) (slots + 40)) : W p l e room_1 s m #[Value.ref b] below meth c H locs cells slots Q (F0 m 1326 ls []) := by
  have C0 := C
  obtain ⟨hx, hb, hr, hml, hown, hts, hX, hbl, hlocks, hl0, hZ, hxS, hxD, hxN⟩ := C0
  have hbA : ¬ (fun q : Nat => s.heap.size ≤ q) b := Nat.not_le.mpr hbl
  have hcm : room_1.cells = 3101 := rfl
  have hsm : room_1.slots = 21269 := rfl
  refine lv_aload_n hx hb dL_law_1326 rfl (lv_at hl 4 rfl) ?_
  refine lv_aload_n hx hb dL_law_1327 rfl (lv_at hl 5 rfl) ?_
  refine lv_iload hx hb dL_law_1328 (lv_at hl 0 rfl) ?_
  refine lv_iconst (v := nI 1) hx hb dL_law_1330 (by decide) ?_
  refine kn_iadd hx hb dL_law_1331 ?_
  refine va_sld hx hb hX hbl hbA hS (sc_in (by omega) hL) dL_law_1332 ?_
  refine kt_i (y := x1) h1 ?_
  refine lv_aload_n hx hb dL_law_1333 rfl (lv_at hl 2 rfl) ?_
  refine lw_wrapL (As := [.ref h0, .int x1, .ref qo]) C hP hD hS hK hl.1 (w_order_bad l D h0 hn hd hq qo cZ cD cI cJ nb v ln go mw oL R.1 hl0 H.size x1 hbad) (vx_cwSW 3 hts gL_law_L_order rfl rfl rfl (by decide +kernel) ⟨Nat.le_of_ble_eq_true rfl, Nat.le_of_ble_eq_true rfl⟩) rfl dL_law_1334 (by omega) (by omega) (fun H locs hP hD hS => ?_)
  refine lv_istore (lv' := [(6, .int (nI 1)), (5, .int (nI i)), (4, .ref qd), (3, .ref qo), (2, .ref k0), (1, .ref h0), (0, .ref b)]) hx hb dL_law_1337 hl (by decide) rfl (fun ls hl => ?_)
  refine lv_aload_n hx hb dL_law_1339 rfl (lv_at hl 4 rfl) ?_
  refine lv_aload_n hx hb dL_law_1340 rfl (lv_at hl 6 rfl) ?_
  refine lv_iload hx hb dL_law_1341 (lv_at hl 1 rfl) ?_
  refine lv_iconst (v := nI 1) hx hb dL_law_1343 (by decide) ?_
  refine kn_iadd hx hb dL_law_1344 ?_
  refine va_sld hx hb hX hbl hbA hS (sc_in (by omega) hL) dL_law_1345 ?_
  refine kt_i (y := x1) h1 ?_
  refine lw_modi (As := [.int x1]) C hP hD hS hK hl.1 (c_X1_order_bad l D k0 kv ko ks km kt kp kb cZ cD cI th mv io sz mk se pv pd go mw R.2.1 H.size x1 hbad) (cwV 1 hts gL_law_X1_order rfl rfl rfl (by decide +kernel) ⟨Nat.le_of_ble_eq_true rfl, Nat.le_of_ble_eq_true rfl⟩) rfl dL_law_1346 (by omega) (by omega) (fun H locs hP hD hS => ?_)
  refine lv_istore (lv' := [(7, .int (nI 0)), (6, .int (nI 1)), (5, .int (nI i)), (4, .ref qd), (3, .ref qo), (2, .ref k0), (1, .ref h0), (0, .ref b)]) hx hb dL_law_1349 hl (by decide) rfl (fun ls hl => ?_)
  refine lv_aload_n hx hb dL_law_1351 rfl (lv_at hl 5 rfl) ?_
  refine lw_thrown (R).2.1 C hP hK hl.1 dL_law_1352 (by omega) (by omega) ?_
  refine kt_i (y := nI 1) (rfl) ?_
  refine lv_iload hx hb dL_law_1355 (lv_at hl 1 rfl) ?_
  refine kn_icmp_eq (tgt := 1362) hx hb (by decide) (by decide) dL_law_1357 (by decide) (fun _ => ?_) (fun h => absurd h (by decide))
  refine lv_iload hx hb dL_law_1362 (lv_at hl 1 rfl) ?_
  refine kn_ne (tgt := 1379) hx hb (by decide) dL_law_1364 (by decide) (fun _ => ?_) (fun h => absurd h (by decide))
  refine lv_goto (tgt := 1745) hx hb dL_law_1379 (by decide) ?_
  refine W.widen (k := cells + 6) (n := slots + 40) (by omega) (by omega) ?_
  exact N R hP hD hS (lv_sub hl [2, 3, 4, 5, 6, 7] rfl)
set_option maxHeartbeats 4000000 in
set_option maxRecDepth 100000 in
theorem cs_same {g : Nat} (hg : g < 6) {h : Nat} (hh : h < 6) (h1 : xs (nI (i + 1)).toNatClampNeg = nI g) (h2 : xs (nI (i + 2)).toNatClampNeg = nI h) (R : Rl nb v ln io mv sz mk se pv pd) (C : LwC l p s m meth c b L xs) (hL : L ≤ 2560) (hi : i + 4 < L) (hK : va_K D vwCl (TYL cZ cD cI cJ) s) (hP : va_P D vwCl (WA h0 hn hd hq k0 kv ko ks km kt kp kb qo qd cZ cD cI cJ nb v ln go mw th mv io sz mk se pv pd go mw oL oD) H) (hD : va_D (fun q : Nat => s.heap.size ≤ q) (WA h0 hn hd hq k0 kv ko ks km kt kp kb qo qd cZ cD cI cJ nb v ln go mw th mv io sz mk se pv pd go mw oL oD)) (hS : va_S (fun q : Nat => s.heap.size ≤ q) s.heap H locs) (hl : lv_has ls 9 [(5, .int (nI i)), (4, .ref qd), (3, .ref qo), (2, .ref k0), (1, .ref h0), (0, .ref b)]) (hcc : cells + 6 ≤ 3101) (hss : slots + 40 ≤ 21269) (N : LwN p l e s m below meth c b Q D h0 hn hd hq k0 kv ko ks km kt kp kb qo qd cZ cD cI cJ i (cells + 6) (slots + 40)) : W p l e room_1 s m #[Value.ref b] below meth c H locs cells slots Q (F0 m 1537 ls []) := by
  have C0 := C
  obtain ⟨hx, hb, hr, hml, hown, hts, hX, hbl, hlocks, hl0, hZ, hxS, hxD, hxN⟩ := C0
  have hbA : ¬ (fun q : Nat => s.heap.size ≤ q) b := Nat.not_le.mpr hbl
  have hcm : room_1.cells = 3101 := rfl
  have hsm : room_1.slots = 21269 := rfl
  refine lv_aload_n hx hb dL_law_1537 rfl (lv_at hl 4 rfl) ?_
  refine lv_aload_n hx hb dL_law_1538 rfl (lv_at hl 5 rfl) ?_
  refine lv_iload hx hb dL_law_1539 (lv_at hl 0 rfl) ?_
  refine lv_iconst (v := nI 1) hx hb dL_law_1541 (by decide) ?_
  refine kn_iadd hx hb dL_law_1542 ?_
  refine va_sld hx hb hX hbl hbA hS (sc_in (by omega) hL) dL_law_1543 ?_
  refine kt_i (y := nI g) h1 ?_
  refine lv_aload_n hx hb dL_law_1544 rfl (lv_at hl 5 rfl) ?_
  refine lv_iload hx hb dL_law_1545 (lv_at hl 0 rfl) ?_
  refine lv_iconst (v := nI 2) hx hb dL_law_1547 (by decide) ?_
  refine kn_iadd hx hb dL_law_1548 ?_
  refine va_sld hx hb hX hbl hbA hS (sc_in (by omega) hL) dL_law_1549 ?_
  refine kt_i (y := nI h) h2 ?_
  refine lv_aload_n hx hb dL_law_1550 rfl (lv_at hl 2 rfl) ?_
  refine lw_wrapL (As := [.ref h0, .int (nI g), .int (nI h), .ref qo]) C hP hD hS hK hl.1 (w_same l D h0 hn hd hq qo cZ cD cI cJ nb v ln go mw oL R.1 hl0 H.size g h hg hh) (vx_cwSW 4 hts gL_law_L_same rfl rfl rfl (by decide +kernel) ⟨Nat.le_of_ble_eq_true rfl, Nat.le_of_ble_eq_true rfl⟩) rfl dL_law_1551 (by omega) (by omega) (fun H locs hP hD hS => ?_)
  refine lv_istore (lv' := [(6, .int (nI 0)), (5, .int (nI i)), (4, .ref qd), (3, .ref qo), (2, .ref k0), (1, .ref h0), (0, .ref b)]) hx hb dL_law_1554 hl (by decide) rfl (fun ls hl => ?_)
  refine lv_aload_n hx hb dL_law_1556 rfl (lv_at hl 4 rfl) ?_
  refine lv_aload_n hx hb dL_law_1557 rfl (lv_at hl 6 rfl) ?_
  refine lv_iload hx hb dL_law_1558 (lv_at hl 1 rfl) ?_
  refine lv_iconst (v := nI 1) hx hb dL_law_1560 (by decide) ?_
  refine kn_iadd hx hb dL_law_1561 ?_
  refine va_sld hx hb hX hbl hbA hS (sc_in (by omega) hL) dL_law_1562 ?_
  refine kt_i (y := nI g) h1 ?_
  refine lv_aload_n hx hb dL_law_1563 rfl (lv_at hl 6 rfl) ?_
  refine lv_iload hx hb dL_law_1564 (lv_at hl 1 rfl) ?_
  refine lv_iconst (v := nI 2) hx hb dL_law_1566 (by decide) ?_
  refine kn_iadd hx hb dL_law_1567 ?_
  refine va_sld hx hb hX hbl hbA hS (sc_in (by omega) hL) dL_law_1568 ?_
  refine kt_i (y := nI h) h2 ?_
  refine lw_modi (As := [.int (nI g), .int (nI h)]) C hP hD hS hK hl.1 (c_X1_same l D k0 kv ko ks km kt kp kb cZ cD cI th mv io sz mk se pv pd go mw R.2.1 H.size g h hg hh) (cwV 2 hts gL_law_X1_same rfl rfl rfl (by decide +kernel) ⟨Nat.le_of_ble_eq_true rfl, Nat.le_of_ble_eq_true rfl⟩) rfl dL_law_1569 (by omega) (by omega) (fun H locs hP hD hS => ?_)
  refine lv_istore (lv' := [(7, .int (nI (if sz (2 * g) = sz (2 * h) then sM io mv g h (sz (2 * g)) else 0))), (6, .int (nI 0)), (5, .int (nI i)), (4, .ref qd), (3, .ref qo), (2, .ref k0), (1, .ref h0), (0, .ref b)]) hx hb dL_law_1572 hl (by decide) rfl (fun ls hl => ?_)
  refine lv_aload_n hx hb dL_law_1574 rfl (lv_at hl 5 rfl) ?_
  refine lw_thrown (R).2.1 C hP hK hl.1 dL_law_1575 (by omega) (by omega) ?_
  refine kt_i (y := nI 0) (rfl) ?_
  refine lv_iload hx hb dL_law_1578 (lv_at hl 1 rfl) ?_
  refine kn_icmp_eq (tgt := 1585) hx hb (by decide) (by decide) dL_law_1580 (by decide) (fun _ => ?_) (fun h => absurd h (by decide))
  refine lv_iload hx hb dL_law_1585 (lv_at hl 1 rfl) ?_
  refine kn_ne (tgt := 1602) hx hb (by decide) dL_law_1587 (by decide) (fun h => absurd h (by decide)) (fun _ => ?_)
  refine lv_aload_n hx hb dL_law_1590 rfl (lv_at hl 4 rfl) ?_
  refine lv_iconst (v := nI 0) hx hb dL_law_1591 (by decide) ?_
  refine kn_lald hx hb hK hP 12 3 rfl rfl (by decide) (by decide) dL_law_1592 ?_
  refine lv_iload hx hb dL_law_1593 (lv_at hl 0 rfl) ?_
  refine lv_i2l hx hb dL_law_1595 rfl ?_
  refine W.lcmp hx hb dL_law_1596 ?_
  refine lv_if_eq (tgt := 1602) hx hb dL_law_1597 (by decide) (fun c_x => ?_) (fun h => absurd (lc_eq (by rw [up_s]; exact congrArg Int32.toInt64 (congrArg nI (R.same hg hh).symm))) h)
  refine lv_goto (tgt := 1745) hx hb dL_law_1602 (by decide) ?_
  refine W.widen (k := cells + 6) (n := slots + 40) (by omega) (by omega) ?_
  exact N R hP hD hS (lv_sub hl [2, 3, 4, 5, 6, 7] rfl)
set_option maxHeartbeats 4000000 in
set_option maxRecDepth 100000 in
theorem cs_same_bad {x1 x2 : Int32} (hbad : ¬ (InN 6 x1 ∧ InN 6 x2)) (h1 : xs (nI (i + 1)).toNatClampNeg = x1) (h2 : xs (nI (i + 2)).toNatClampNeg = x2) (R : Rl nb v ln io mv sz mk se pv pd) (C : LwC l p s m meth c b L xs) (hL : L ≤ 2560) (hi : i + 4 < L) (hK : va_K D vwCl (TYL cZ cD cI cJ) s) (hP : va_P D vwCl (WA h0 hn hd hq k0 kv ko ks km kt kp kb qo qd cZ cD cI cJ nb v ln go mw th mv io sz mk se pv pd go mw oL oD) H) (hD : va_D (fun q : Nat => s.heap.size ≤ q) (WA h0 hn hd hq k0 kv ko ks km kt kp kb qo qd cZ cD cI cJ nb v ln go mw th mv io sz mk se pv pd go mw oL oD)) (hS : va_S (fun q : Nat => s.heap.size ≤ q) s.heap H locs) (hl : lv_has ls 9 [(5, .int (nI i)), (4, .ref qd), (3, .ref qo), (2, .ref k0), (1, .ref h0), (0, .ref b)]) (hcc : cells + 6 ≤ 3101) (hss : slots + 40 ≤ 21269) (N : LwN p l e s m below meth c b Q D h0 hn hd hq k0 kv ko ks km kt kp kb qo qd cZ cD cI cJ i (cells + 6) (slots + 40)) : W p l e room_1 s m #[Value.ref b] below meth c H locs cells slots Q (F0 m 1537 ls []) := by
  have C0 := C
  obtain ⟨hx, hb, hr, hml, hown, hts, hX, hbl, hlocks, hl0, hZ, hxS, hxD, hxN⟩ := C0
  have hbA : ¬ (fun q : Nat => s.heap.size ≤ q) b := Nat.not_le.mpr hbl
  have hcm : room_1.cells = 3101 := rfl
  have hsm : room_1.slots = 21269 := rfl
  refine lv_aload_n hx hb dL_law_1537 rfl (lv_at hl 4 rfl) ?_
  refine lv_aload_n hx hb dL_law_1538 rfl (lv_at hl 5 rfl) ?_
  refine lv_iload hx hb dL_law_1539 (lv_at hl 0 rfl) ?_
  refine lv_iconst (v := nI 1) hx hb dL_law_1541 (by decide) ?_
  refine kn_iadd hx hb dL_law_1542 ?_
  refine va_sld hx hb hX hbl hbA hS (sc_in (by omega) hL) dL_law_1543 ?_
  refine kt_i (y := x1) h1 ?_
  refine lv_aload_n hx hb dL_law_1544 rfl (lv_at hl 5 rfl) ?_
  refine lv_iload hx hb dL_law_1545 (lv_at hl 0 rfl) ?_
  refine lv_iconst (v := nI 2) hx hb dL_law_1547 (by decide) ?_
  refine kn_iadd hx hb dL_law_1548 ?_
  refine va_sld hx hb hX hbl hbA hS (sc_in (by omega) hL) dL_law_1549 ?_
  refine kt_i (y := x2) h2 ?_
  refine lv_aload_n hx hb dL_law_1550 rfl (lv_at hl 2 rfl) ?_
  refine lw_wrapL (As := [.ref h0, .int x1, .int x2, .ref qo]) C hP hD hS hK hl.1 (w_same_bad l D h0 hn hd hq qo cZ cD cI cJ nb v ln go mw oL R.1 hl0 H.size x1 x2 hbad) (vx_cwSW 4 hts gL_law_L_same rfl rfl rfl (by decide +kernel) ⟨Nat.le_of_ble_eq_true rfl, Nat.le_of_ble_eq_true rfl⟩) rfl dL_law_1551 (by omega) (by omega) (fun H locs hP hD hS => ?_)
  refine lv_istore (lv' := [(6, .int (nI 1)), (5, .int (nI i)), (4, .ref qd), (3, .ref qo), (2, .ref k0), (1, .ref h0), (0, .ref b)]) hx hb dL_law_1554 hl (by decide) rfl (fun ls hl => ?_)
  refine lv_aload_n hx hb dL_law_1556 rfl (lv_at hl 4 rfl) ?_
  refine lv_aload_n hx hb dL_law_1557 rfl (lv_at hl 6 rfl) ?_
  refine lv_iload hx hb dL_law_1558 (lv_at hl 1 rfl) ?_
  refine lv_iconst (v := nI 1) hx hb dL_law_1560 (by decide) ?_
  refine kn_iadd hx hb dL_law_1561 ?_
  refine va_sld hx hb hX hbl hbA hS (sc_in (by omega) hL) dL_law_1562 ?_
  refine kt_i (y := x1) h1 ?_
  refine lv_aload_n hx hb dL_law_1563 rfl (lv_at hl 6 rfl) ?_
  refine lv_iload hx hb dL_law_1564 (lv_at hl 1 rfl) ?_
  refine lv_iconst (v := nI 2) hx hb dL_law_1566 (by decide) ?_
  refine kn_iadd hx hb dL_law_1567 ?_
  refine va_sld hx hb hX hbl hbA hS (sc_in (by omega) hL) dL_law_1568 ?_
  refine kt_i (y := x2) h2 ?_
  refine lw_modi (As := [.int x1, .int x2]) C hP hD hS hK hl.1 (c_X1_same_bad l D k0 kv ko ks km kt kp kb cZ cD cI th mv io sz mk se pv pd go mw R.2.1 H.size x1 x2 hbad) (cwV 2 hts gL_law_X1_same rfl rfl rfl (by decide +kernel) ⟨Nat.le_of_ble_eq_true rfl, Nat.le_of_ble_eq_true rfl⟩) rfl dL_law_1569 (by omega) (by omega) (fun H locs hP hD hS => ?_)
  refine lv_istore (lv' := [(7, .int (nI 0)), (6, .int (nI 1)), (5, .int (nI i)), (4, .ref qd), (3, .ref qo), (2, .ref k0), (1, .ref h0), (0, .ref b)]) hx hb dL_law_1572 hl (by decide) rfl (fun ls hl => ?_)
  refine lv_aload_n hx hb dL_law_1574 rfl (lv_at hl 5 rfl) ?_
  refine lw_thrown (R).2.1 C hP hK hl.1 dL_law_1575 (by omega) (by omega) ?_
  refine kt_i (y := nI 1) (rfl) ?_
  refine lv_iload hx hb dL_law_1578 (lv_at hl 1 rfl) ?_
  refine kn_icmp_eq (tgt := 1585) hx hb (by decide) (by decide) dL_law_1580 (by decide) (fun _ => ?_) (fun h => absurd h (by decide))
  refine lv_iload hx hb dL_law_1585 (lv_at hl 1 rfl) ?_
  refine kn_ne (tgt := 1602) hx hb (by decide) dL_law_1587 (by decide) (fun _ => ?_) (fun h => absurd h (by decide))
  refine lv_goto (tgt := 1745) hx hb dL_law_1602 (by decide) ?_
  refine W.widen (k := cells + 6) (n := slots + 40) (by omega) (by omega) ?_
  exact N R hP hD hS (lv_sub hl [2, 3, 4, 5, 6, 7] rfl)
set_option maxHeartbeats 4000000 in
set_option maxRecDepth 100000 in
theorem cs_size {g : Nat} (hg : g < 6) {w : Nat} (hw : w < 2) (h1 : xs (nI (i + 1)).toNatClampNeg = nI g) (h2 : xs (nI (i + 2)).toNatClampNeg = nI w) (R : Rl nb v ln io mv sz mk se pv pd) (C : LwC l p s m meth c b L xs) (hL : L ≤ 2560) (hi : i + 4 < L) (hK : va_K D vwCl (TYL cZ cD cI cJ) s) (hP : va_P D vwCl (WA h0 hn hd hq k0 kv ko ks km kt kp kb qo qd cZ cD cI cJ nb v ln go mw th mv io sz mk se pv pd go mw oL oD) H) (hD : va_D (fun q : Nat => s.heap.size ≤ q) (WA h0 hn hd hq k0 kv ko ks km kt kp kb qo qd cZ cD cI cJ nb v ln go mw th mv io sz mk se pv pd go mw oL oD)) (hS : va_S (fun q : Nat => s.heap.size ≤ q) s.heap H locs) (hl : lv_has ls 9 [(5, .int (nI i)), (4, .ref qd), (3, .ref qo), (2, .ref k0), (1, .ref h0), (0, .ref b)]) (hcc : cells + 6 ≤ 3101) (hss : slots + 40 ≤ 21269) (N : LwN p l e s m below meth c b Q D h0 hn hd hq k0 kv ko ks km kt kp kb qo qd cZ cD cI cJ i (cells + 6) (slots + 40)) : W p l e room_1 s m #[Value.ref b] below meth c H locs cells slots Q (F0 m 1677 ls []) := by
  have C0 := C
  obtain ⟨hx, hb, hr, hml, hown, hts, hX, hbl, hlocks, hl0, hZ, hxS, hxD, hxN⟩ := C0
  have hbA : ¬ (fun q : Nat => s.heap.size ≤ q) b := Nat.not_le.mpr hbl
  have hcm : room_1.cells = 3101 := rfl
  have hsm : room_1.slots = 21269 := rfl
  refine lv_aload_n hx hb dL_law_1677 rfl (lv_at hl 4 rfl) ?_
  refine lv_aload_n hx hb dL_law_1678 rfl (lv_at hl 5 rfl) ?_
  refine lv_iload hx hb dL_law_1679 (lv_at hl 0 rfl) ?_
  refine lv_iconst (v := nI 1) hx hb dL_law_1681 (by decide) ?_
  refine kn_iadd hx hb dL_law_1682 ?_
  refine va_sld hx hb hX hbl hbA hS (sc_in (by omega) hL) dL_law_1683 ?_
  refine kt_i (y := nI g) h1 ?_
  refine lv_aload_n hx hb dL_law_1684 rfl (lv_at hl 5 rfl) ?_
  refine lv_iload hx hb dL_law_1685 (lv_at hl 0 rfl) ?_
  refine lv_iconst (v := nI 2) hx hb dL_law_1687 (by decide) ?_
  refine kn_iadd hx hb dL_law_1688 ?_
  refine va_sld hx hb hX hbl hbA hS (sc_in (by omega) hL) dL_law_1689 ?_
  refine kt_i (y := nI w) h2 ?_
  refine lv_aload_n hx hb dL_law_1690 rfl (lv_at hl 2 rfl) ?_
  refine lw_wrapL (As := [.ref h0, .int (nI g), .int (nI w), .ref qo]) C hP hD hS hK hl.1 (w_size l D h0 hn hd hq qo cZ cD cI cJ nb v ln go mw oL R.1 hl0 H.size g w hg hw) (vx_cwSW 4 hts gL_law_L_size rfl rfl rfl (by decide +kernel) ⟨Nat.le_of_ble_eq_true rfl, Nat.le_of_ble_eq_true rfl⟩) rfl dL_law_1691 (by omega) (by omega) (fun H locs hP hD hS => ?_)
  refine lv_istore (lv' := [(6, .int (nI 0)), (5, .int (nI i)), (4, .ref qd), (3, .ref qo), (2, .ref k0), (1, .ref h0), (0, .ref b)]) hx hb dL_law_1694 hl (by decide) rfl (fun ls hl => ?_)
  refine lv_aload_n hx hb dL_law_1696 rfl (lv_at hl 4 rfl) ?_
  refine lv_aload_n hx hb dL_law_1697 rfl (lv_at hl 6 rfl) ?_
  refine lv_iload hx hb dL_law_1698 (lv_at hl 1 rfl) ?_
  refine lv_iconst (v := nI 1) hx hb dL_law_1700 (by decide) ?_
  refine kn_iadd hx hb dL_law_1701 ?_
  refine va_sld hx hb hX hbl hbA hS (sc_in (by omega) hL) dL_law_1702 ?_
  refine kt_i (y := nI g) h1 ?_
  refine lv_aload_n hx hb dL_law_1703 rfl (lv_at hl 6 rfl) ?_
  refine lv_iload hx hb dL_law_1704 (lv_at hl 1 rfl) ?_
  refine lv_iconst (v := nI 2) hx hb dL_law_1706 (by decide) ?_
  refine kn_iadd hx hb dL_law_1707 ?_
  refine va_sld hx hb hX hbl hbA hS (sc_in (by omega) hL) dL_law_1708 ?_
  refine kt_i (y := nI w) h2 ?_
  refine lw_modi (As := [.int (nI g), .int (nI w)]) C hP hD hS hK hl.1 (c_X1_size l D k0 kv ko ks km kt kp kb cZ cD cI th mv io sz mk se pv pd go mw R.2.1 H.size g w hg hw) (cwV 2 hts gL_law_X1_size rfl rfl rfl (by decide +kernel) ⟨Nat.le_of_ble_eq_true rfl, Nat.le_of_ble_eq_true rfl⟩) rfl dL_law_1709 (by omega) (by omega) (fun H locs hP hD hS => ?_)
  refine lv_istore (lv' := [(7, .int (nI (sz (2 * g + w)))), (6, .int (nI 0)), (5, .int (nI i)), (4, .ref qd), (3, .ref qo), (2, .ref k0), (1, .ref h0), (0, .ref b)]) hx hb dL_law_1712 hl (by decide) rfl (fun ls hl => ?_)
  refine lv_aload_n hx hb dL_law_1714 rfl (lv_at hl 5 rfl) ?_
  refine lw_thrown (R).2.1 C hP hK hl.1 dL_law_1715 (by omega) (by omega) ?_
  refine kt_i (y := nI 0) (rfl) ?_
  refine lv_iload hx hb dL_law_1718 (lv_at hl 1 rfl) ?_
  refine kn_icmp_eq (tgt := 1725) hx hb (by decide) (by decide) dL_law_1720 (by decide) (fun _ => ?_) (fun h => absurd h (by decide))
  refine lv_iload hx hb dL_law_1725 (lv_at hl 1 rfl) ?_
  refine kn_ne (tgt := 1742) hx hb (by decide) dL_law_1727 (by decide) (fun h => absurd h (by decide)) (fun _ => ?_)
  refine lv_aload_n hx hb dL_law_1730 rfl (lv_at hl 4 rfl) ?_
  refine lv_iconst (v := nI 0) hx hb dL_law_1731 (by decide) ?_
  refine kn_lald hx hb hK hP 12 3 rfl rfl (by decide) (by decide) dL_law_1732 ?_
  refine lv_iload hx hb dL_law_1733 (lv_at hl 0 rfl) ?_
  refine lv_i2l hx hb dL_law_1735 rfl ?_
  refine W.lcmp hx hb dL_law_1736 ?_
  refine lv_if_eq (tgt := 1742) hx hb dL_law_1737 (by decide) (fun c_x => ?_) (fun h => absurd (lc_eq (by rw [up_s]; exact congrArg Int32.toInt64 (by rw [R.size2 hg hw]))) h)
  refine lv_goto (tgt := 1745) hx hb dL_law_1742 (by decide) ?_
  refine W.widen (k := cells + 6) (n := slots + 40) (by omega) (by omega) ?_
  exact N R hP hD hS (lv_sub hl [2, 3, 4, 5, 6, 7] rfl)
set_option maxHeartbeats 4000000 in
set_option maxRecDepth 100000 in
theorem cs_size_bad {x1 x2 : Int32} (hbad : ¬ (InN 6 x1 ∧ InN 2 x2)) (h1 : xs (nI (i + 1)).toNatClampNeg = x1) (h2 : xs (nI (i + 2)).toNatClampNeg = x2) (R : Rl nb v ln io mv sz mk se pv pd) (C : LwC l p s m meth c b L xs) (hL : L ≤ 2560) (hi : i + 4 < L) (hK : va_K D vwCl (TYL cZ cD cI cJ) s) (hP : va_P D vwCl (WA h0 hn hd hq k0 kv ko ks km kt kp kb qo qd cZ cD cI cJ nb v ln go mw th mv io sz mk se pv pd go mw oL oD) H) (hD : va_D (fun q : Nat => s.heap.size ≤ q) (WA h0 hn hd hq k0 kv ko ks km kt kp kb qo qd cZ cD cI cJ nb v ln go mw th mv io sz mk se pv pd go mw oL oD)) (hS : va_S (fun q : Nat => s.heap.size ≤ q) s.heap H locs) (hl : lv_has ls 9 [(5, .int (nI i)), (4, .ref qd), (3, .ref qo), (2, .ref k0), (1, .ref h0), (0, .ref b)]) (hcc : cells + 6 ≤ 3101) (hss : slots + 40 ≤ 21269) (N : LwN p l e s m below meth c b Q D h0 hn hd hq k0 kv ko ks km kt kp kb qo qd cZ cD cI cJ i (cells + 6) (slots + 40)) : W p l e room_1 s m #[Value.ref b] below meth c H locs cells slots Q (F0 m 1677 ls []) := by
  have C0 := C
  obtain ⟨hx, hb, hr, hml, hown, hts, hX, hbl, hlocks, hl0, hZ, hxS, hxD, hxN⟩ := C0
  have hbA : ¬ (fun q : Nat => s.heap.size ≤ q) b := Nat.not_le.mpr hbl
  have hcm : room_1.cells = 3101 := rfl
  have hsm : room_1.slots = 21269 := rfl
  refine lv_aload_n hx hb dL_law_1677 rfl (lv_at hl 4 rfl) ?_
  refine lv_aload_n hx hb dL_law_1678 rfl (lv_at hl 5 rfl) ?_
  refine lv_iload hx hb dL_law_1679 (lv_at hl 0 rfl) ?_
  refine lv_iconst (v := nI 1) hx hb dL_law_1681 (by decide) ?_
  refine kn_iadd hx hb dL_law_1682 ?_
  refine va_sld hx hb hX hbl hbA hS (sc_in (by omega) hL) dL_law_1683 ?_
  refine kt_i (y := x1) h1 ?_
  refine lv_aload_n hx hb dL_law_1684 rfl (lv_at hl 5 rfl) ?_
  refine lv_iload hx hb dL_law_1685 (lv_at hl 0 rfl) ?_
  refine lv_iconst (v := nI 2) hx hb dL_law_1687 (by decide) ?_
  refine kn_iadd hx hb dL_law_1688 ?_
  refine va_sld hx hb hX hbl hbA hS (sc_in (by omega) hL) dL_law_1689 ?_
  refine kt_i (y := x2) h2 ?_
  refine lv_aload_n hx hb dL_law_1690 rfl (lv_at hl 2 rfl) ?_
  refine lw_wrapL (As := [.ref h0, .int x1, .int x2, .ref qo]) C hP hD hS hK hl.1 (w_size_bad l D h0 hn hd hq qo cZ cD cI cJ nb v ln go mw oL R.1 hl0 H.size x1 x2 hbad) (vx_cwSW 4 hts gL_law_L_size rfl rfl rfl (by decide +kernel) ⟨Nat.le_of_ble_eq_true rfl, Nat.le_of_ble_eq_true rfl⟩) rfl dL_law_1691 (by omega) (by omega) (fun H locs hP hD hS => ?_)
  refine lv_istore (lv' := [(6, .int (nI 1)), (5, .int (nI i)), (4, .ref qd), (3, .ref qo), (2, .ref k0), (1, .ref h0), (0, .ref b)]) hx hb dL_law_1694 hl (by decide) rfl (fun ls hl => ?_)
  refine lv_aload_n hx hb dL_law_1696 rfl (lv_at hl 4 rfl) ?_
  refine lv_aload_n hx hb dL_law_1697 rfl (lv_at hl 6 rfl) ?_
  refine lv_iload hx hb dL_law_1698 (lv_at hl 1 rfl) ?_
  refine lv_iconst (v := nI 1) hx hb dL_law_1700 (by decide) ?_
  refine kn_iadd hx hb dL_law_1701 ?_
  refine va_sld hx hb hX hbl hbA hS (sc_in (by omega) hL) dL_law_1702 ?_
  refine kt_i (y := x1) h1 ?_
  refine lv_aload_n hx hb dL_law_1703 rfl (lv_at hl 6 rfl) ?_
  refine lv_iload hx hb dL_law_1704 (lv_at hl 1 rfl) ?_
  refine lv_iconst (v := nI 2) hx hb dL_law_1706 (by decide) ?_
  refine kn_iadd hx hb dL_law_1707 ?_
  refine va_sld hx hb hX hbl hbA hS (sc_in (by omega) hL) dL_law_1708 ?_
  refine kt_i (y := x2) h2 ?_
  refine lw_modi (As := [.int x1, .int x2]) C hP hD hS hK hl.1 (c_X1_size_bad l D k0 kv ko ks km kt kp kb cZ cD cI th mv io sz mk se pv pd go mw R.2.1 H.size x1 x2 hbad) (cwV 2 hts gL_law_X1_size rfl rfl rfl (by decide +kernel) ⟨Nat.le_of_ble_eq_true rfl, Nat.le_of_ble_eq_true rfl⟩) rfl dL_law_1709 (by omega) (by omega) (fun H locs hP hD hS => ?_)
  refine lv_istore (lv' := [(7, .int (nI 0)), (6, .int (nI 1)), (5, .int (nI i)), (4, .ref qd), (3, .ref qo), (2, .ref k0), (1, .ref h0), (0, .ref b)]) hx hb dL_law_1712 hl (by decide) rfl (fun ls hl => ?_)
  refine lv_aload_n hx hb dL_law_1714 rfl (lv_at hl 5 rfl) ?_
  refine lw_thrown (R).2.1 C hP hK hl.1 dL_law_1715 (by omega) (by omega) ?_
  refine kt_i (y := nI 1) (rfl) ?_
  refine lv_iload hx hb dL_law_1718 (lv_at hl 1 rfl) ?_
  refine kn_icmp_eq (tgt := 1725) hx hb (by decide) (by decide) dL_law_1720 (by decide) (fun _ => ?_) (fun h => absurd h (by decide))
  refine lv_iload hx hb dL_law_1725 (lv_at hl 1 rfl) ?_
  refine kn_ne (tgt := 1742) hx hb (by decide) dL_law_1727 (by decide) (fun _ => ?_) (fun h => absurd h (by decide))
  refine lv_goto (tgt := 1745) hx hb dL_law_1742 (by decide) ?_
  refine W.widen (k := cells + 6) (n := slots + 40) (by omega) (by omega) ?_
  exact N R hP hD hS (lv_sub hl [2, 3, 4, 5, 6, 7] rfl)
set_option maxHeartbeats 4000000 in
set_option maxRecDepth 100000 in
theorem cs_highest {g : Nat} (hg : g < 6) (hsome : bs nb v (g * 2 + 0) 2 (ln (g * 2 + 0)) ≠ 164) (h1 : xs (nI (i + 1)).toNatClampNeg = nI g) (R : Rl nb v ln io mv sz mk se pv pd) (C : LwC l p s m meth c b L xs) (hL : L ≤ 2560) (hi : i + 4 < L) (hK : va_K D vwCl (TYL cZ cD cI cJ) s) (hP : va_P D vwCl (WA h0 hn hd hq k0 kv ko ks km kt kp kb qo qd cZ cD cI cJ nb v ln go mw th mv io sz mk se pv pd go mw oL oD) H) (hD : va_D (fun q : Nat => s.heap.size ≤ q) (WA h0 hn hd hq k0 kv ko ks km kt kp kb qo qd cZ cD cI cJ nb v ln go mw th mv io sz mk se pv pd go mw oL oD)) (hS : va_S (fun q : Nat => s.heap.size ≤ q) s.heap H locs) (hl : lv_has ls 9 [(5, .int (nI i)), (4, .ref qd), (3, .ref qo), (2, .ref k0), (1, .ref h0), (0, .ref b)]) (hcc : cells + 6 ≤ 3101) (hss : slots + 40 ≤ 21269) (N : LwN p l e s m below meth c b Q D h0 hn hd hq k0 kv ko ks km kt kp kb qo qd cZ cD cI cJ i (cells + 6) (slots + 40)) : W p l e room_1 s m #[Value.ref b] below meth c H locs cells slots Q (F0 m 1382 ls []) := by
  have C0 := C
  obtain ⟨hx, hb, hr, hml, hown, hts, hX, hbl, hlocks, hl0, hZ, hxS, hxD, hxN⟩ := C0
  have hbA : ¬ (fun q : Nat => s.heap.size ≤ q) b := Nat.not_le.mpr hbl
  have hcm : room_1.cells = 3101 := rfl
  have hsm : room_1.slots = 21269 := rfl
  obtain ⟨hb1, hb2, hb3⟩ := R.best_some (t := g * 2 + 0) (k := 2) (y := 4) (by omega) (Or.inl ⟨rfl, rfl⟩) hsome
  refine lv_aload_n hx hb dL_law_1382 rfl (lv_at hl 4 rfl) ?_
  refine lv_aload_n hx hb dL_law_1383 rfl (lv_at hl 5 rfl) ?_
  refine lv_iload hx hb dL_law_1384 (lv_at hl 0 rfl) ?_
  refine lv_iconst (v := nI 1) hx hb dL_law_1386 (by decide) ?_
  refine kn_iadd hx hb dL_law_1387 ?_
  refine va_sld hx hb hX hbl hbA hS (sc_in (by omega) hL) dL_law_1388 ?_
  refine kt_i (y := nI g) h1 ?_
  refine lv_aload hx hb dL_law_1389 (lv_at hl 1 rfl) ?_
  refine lw_wrapD (As := [.ref h0, .int (nI g), .ref qd]) C hP hD hS hK hl.1 (w_highest l D h0 hn hd hq qd cZ cD cI nb v ln go mw oD R.1 hl0 H.size g hg hsome) (vx_cwSW 3 hts gL_law_L_highest rfl rfl rfl (by decide +kernel) ⟨Nat.le_of_ble_eq_true rfl, Nat.le_of_ble_eq_true rfl⟩) rfl dL_law_1391 (by omega) (by omega) (fun H locs hP hD hS => ?_)
  refine lv_istore (lv' := [(6, .int (nI 0)), (5, .int (nI i)), (4, .ref qd), (3, .ref qo), (2, .ref k0), (1, .ref h0), (0, .ref b)]) hx hb dL_law_1394 hl (by decide) rfl (fun ls hl => ?_)
  refine lv_aload_n hx hb dL_law_1396 rfl (lv_at hl 4 rfl) ?_
  refine lv_aload_n hx hb dL_law_1397 rfl (lv_at hl 6 rfl) ?_
  refine lv_iload hx hb dL_law_1398 (lv_at hl 1 rfl) ?_
  refine lv_iconst (v := nI 1) hx hb dL_law_1400 (by decide) ?_
  refine kn_iadd hx hb dL_law_1401 ?_
  refine va_sld hx hb hX hbl hbA hS (sc_in (by omega) hL) dL_law_1402 ?_
  refine kt_i (y := nI g) h1 ?_
  refine lw_modd (As := [.int (nI g)]) C hP hD hS hK hl.1 (c_X1_highest l D k0 kv ko ks km kt kp kb cZ cD cI th mv io sz mk se pv pd go mw R.2.1 H.size g (bs nb v (g * 2 + 0) 2 (ln (g * 2 + 0))) hg (by rw [show 2 * g = g * 2 + 0 by omega]; exact hb1)) (cwV 1 hts gL_law_X1_highest rfl rfl rfl (by decide +kernel) ⟨Nat.le_of_ble_eq_true rfl, Nat.le_of_ble_eq_true rfl⟩) rfl dL_law_1403 (by omega) (by omega) (fun H locs hP hD hS => ?_)
  refine lv_dstore (lv' := [(7, .double (mv (bs nb v (g * 2 + 0) 2 (ln (g * 2 + 0))))), (6, .int (nI 0)), (5, .int (nI i)), (4, .ref qd), (3, .ref qo), (2, .ref k0), (1, .ref h0), (0, .ref b)]) hx hb dL_law_1406 hl (by decide) rfl (fun ls hl => ?_)
  refine lv_aload_n hx hb dL_law_1408 rfl (lv_at hl 5 rfl) ?_
  refine lw_thrown (R).2.1 C hP hK hl.1 dL_law_1409 (by omega) (by omega) ?_
  refine kt_i (y := nI 0) (rfl) ?_
  refine lv_iload hx hb dL_law_1412 (lv_at hl 1 rfl) ?_
  refine kn_icmp_eq (tgt := 1419) hx hb (by decide) (by decide) dL_law_1414 (by decide) (fun _ => ?_) (fun h => absurd h (by decide))
  refine lv_iload hx hb dL_law_1419 (lv_at hl 1 rfl) ?_
  refine kn_ne (tgt := 1456) hx hb (by decide) dL_law_1421 (by decide) (fun h => absurd h (by decide)) (fun _ => ?_)
  refine lv_aload hx hb dL_law_1424 (lv_at hl 3 rfl) ?_
  refine lv_iconst (v := nI 0) hx hb dL_law_1426 (by decide) ?_
  refine kn_dald hx hb hK hP 13 1 rfl rfl (by decide) (by decide) dL_law_1427 ?_
  refine lv_dload hx hb dL_law_1428 (lv_at hl 0 rfl) ?_
  have hq9 : oEq (FP.dcmp ((up oD 0 (v (bs nb v (g * 2 + 0) 2 (ln (g * 2 + 0))))) 0) (mv (bs nb v (g * 2 + 0) 2 (ln (g * 2 + 0))))) = true := by rw [up_s, hb2]; exact oEq_self hb3
  refine kc_dl_eq (tgt := 1456) hx hb dL_law_1430 dL_law_1431 (by decide) (fun _ => ?_) (fun h => absurd (hq9.symm.trans h) (by decide))
  refine lv_goto (tgt := 1745) hx hb dL_law_1456 (by decide) ?_
  refine W.widen (k := cells + 6) (n := slots + 40) (by omega) (by omega) ?_
  exact N R hP hD hS (lv_sub hl [2, 3, 4, 5, 6, 7] rfl)
set_option maxHeartbeats 4000000 in
set_option maxRecDepth 100000 in
theorem cs_highest_none {g : Nat} (hg : g < 6) (hnone : bs nb v (g * 2 + 0) 2 (ln (g * 2 + 0)) = 164) (h1 : xs (nI (i + 1)).toNatClampNeg = nI g) (R : Rl nb v ln io mv sz mk se pv pd) (C : LwC l p s m meth c b L xs) (hL : L ≤ 2560) (hi : i + 4 < L) (hK : va_K D vwCl (TYL cZ cD cI cJ) s) (hP : va_P D vwCl (WA h0 hn hd hq k0 kv ko ks km kt kp kb qo qd cZ cD cI cJ nb v ln go mw th mv io sz mk se pv pd go mw oL oD) H) (hD : va_D (fun q : Nat => s.heap.size ≤ q) (WA h0 hn hd hq k0 kv ko ks km kt kp kb qo qd cZ cD cI cJ nb v ln go mw th mv io sz mk se pv pd go mw oL oD)) (hS : va_S (fun q : Nat => s.heap.size ≤ q) s.heap H locs) (hl : lv_has ls 9 [(5, .int (nI i)), (4, .ref qd), (3, .ref qo), (2, .ref k0), (1, .ref h0), (0, .ref b)]) (hcc : cells + 6 ≤ 3101) (hss : slots + 40 ≤ 21269) (N : LwN p l e s m below meth c b Q D h0 hn hd hq k0 kv ko ks km kt kp kb qo qd cZ cD cI cJ i (cells + 6) (slots + 40)) : W p l e room_1 s m #[Value.ref b] below meth c H locs cells slots Q (F0 m 1382 ls []) := by
  have C0 := C
  obtain ⟨hx, hb, hr, hml, hown, hts, hX, hbl, hlocks, hl0, hZ, hxS, hxD, hxN⟩ := C0
  have hbA : ¬ (fun q : Nat => s.heap.size ≤ q) b := Nat.not_le.mpr hbl
  have hcm : room_1.cells = 3101 := rfl
  have hsm : room_1.slots = 21269 := rfl
  have hb1 := R.best_none (t := g * 2 + 0) (k := 2) (y := 4) (by omega) (Or.inl ⟨rfl, rfl⟩) hnone
  refine lv_aload_n hx hb dL_law_1382 rfl (lv_at hl 4 rfl) ?_
  refine lv_aload_n hx hb dL_law_1383 rfl (lv_at hl 5 rfl) ?_
  refine lv_iload hx hb dL_law_1384 (lv_at hl 0 rfl) ?_
  refine lv_iconst (v := nI 1) hx hb dL_law_1386 (by decide) ?_
  refine kn_iadd hx hb dL_law_1387 ?_
  refine va_sld hx hb hX hbl hbA hS (sc_in (by omega) hL) dL_law_1388 ?_
  refine kt_i (y := nI g) h1 ?_
  refine lv_aload hx hb dL_law_1389 (lv_at hl 1 rfl) ?_
  refine lw_wrapD (As := [.ref h0, .int (nI g), .ref qd]) C hP hD hS hK hl.1 (w_highest_none l D h0 hn hd hq qd cZ cD cI nb v ln go mw oD R.1 hl0 H.size g hg hnone) (vx_cwSW 3 hts gL_law_L_highest rfl rfl rfl (by decide +kernel) ⟨Nat.le_of_ble_eq_true rfl, Nat.le_of_ble_eq_true rfl⟩) rfl dL_law_1391 (by omega) (by omega) (fun H locs hP hD hS => ?_)
  refine lv_istore (lv' := [(6, .int (nI 2)), (5, .int (nI i)), (4, .ref qd), (3, .ref qo), (2, .ref k0), (1, .ref h0), (0, .ref b)]) hx hb dL_law_1394 hl (by decide) rfl (fun ls hl => ?_)
  refine lv_aload_n hx hb dL_law_1396 rfl (lv_at hl 4 rfl) ?_
  refine lv_aload_n hx hb dL_law_1397 rfl (lv_at hl 6 rfl) ?_
  refine lv_iload hx hb dL_law_1398 (lv_at hl 1 rfl) ?_
  refine lv_iconst (v := nI 1) hx hb dL_law_1400 (by decide) ?_
  refine kn_iadd hx hb dL_law_1401 ?_
  refine va_sld hx hb hX hbl hbA hS (sc_in (by omega) hL) dL_law_1402 ?_
  refine kt_i (y := nI g) h1 ?_
  refine lw_modd (As := [.int (nI g)]) C hP hD hS hK hl.1 (c_X1_highest_none l D k0 kv ko ks km kt kp kb cZ cD cI th mv io sz mk se pv pd go mw R.2.1 H.size g hg (by rw [show 2 * g = g * 2 + 0 by omega]; exact hb1)) (cwV 1 hts gL_law_X1_highest rfl rfl rfl (by decide +kernel) ⟨Nat.le_of_ble_eq_true rfl, Nat.le_of_ble_eq_true rfl⟩) rfl dL_law_1403 (by omega) (by omega) (fun H locs hP hD hS => ?_)
  refine lv_dstore (lv' := [(7, .double FP.dconst0), (6, .int (nI 2)), (5, .int (nI i)), (4, .ref qd), (3, .ref qo), (2, .ref k0), (1, .ref h0), (0, .ref b)]) hx hb dL_law_1406 hl (by decide) rfl (fun ls hl => ?_)
  refine lv_aload_n hx hb dL_law_1408 rfl (lv_at hl 5 rfl) ?_
  refine lw_thrown (R).2.1 C hP hK hl.1 dL_law_1409 (by omega) (by omega) ?_
  refine kt_i (y := nI 2) (rfl) ?_
  refine lv_iload hx hb dL_law_1412 (lv_at hl 1 rfl) ?_
  refine kn_icmp_eq (tgt := 1419) hx hb (by decide) (by decide) dL_law_1414 (by decide) (fun _ => ?_) (fun h => absurd h (by decide))
  refine lv_iload hx hb dL_law_1419 (lv_at hl 1 rfl) ?_
  refine kn_ne (tgt := 1456) hx hb (by decide) dL_law_1421 (by decide) (fun _ => ?_) (fun h => absurd h (by decide))
  refine lv_goto (tgt := 1745) hx hb dL_law_1456 (by decide) ?_
  refine W.widen (k := cells + 6) (n := slots + 40) (by omega) (by omega) ?_
  exact N R hP hD hS (lv_sub hl [2, 3, 4, 5, 6, 7] rfl)
set_option maxHeartbeats 4000000 in
set_option maxRecDepth 100000 in
theorem cs_highest_bad {x1 : Int32} (hbad : ¬ (InN 6 x1)) (h1 : xs (nI (i + 1)).toNatClampNeg = x1) (R : Rl nb v ln io mv sz mk se pv pd) (C : LwC l p s m meth c b L xs) (hL : L ≤ 2560) (hi : i + 4 < L) (hK : va_K D vwCl (TYL cZ cD cI cJ) s) (hP : va_P D vwCl (WA h0 hn hd hq k0 kv ko ks km kt kp kb qo qd cZ cD cI cJ nb v ln go mw th mv io sz mk se pv pd go mw oL oD) H) (hD : va_D (fun q : Nat => s.heap.size ≤ q) (WA h0 hn hd hq k0 kv ko ks km kt kp kb qo qd cZ cD cI cJ nb v ln go mw th mv io sz mk se pv pd go mw oL oD)) (hS : va_S (fun q : Nat => s.heap.size ≤ q) s.heap H locs) (hl : lv_has ls 9 [(5, .int (nI i)), (4, .ref qd), (3, .ref qo), (2, .ref k0), (1, .ref h0), (0, .ref b)]) (hcc : cells + 6 ≤ 3101) (hss : slots + 40 ≤ 21269) (N : LwN p l e s m below meth c b Q D h0 hn hd hq k0 kv ko ks km kt kp kb qo qd cZ cD cI cJ i (cells + 6) (slots + 40)) : W p l e room_1 s m #[Value.ref b] below meth c H locs cells slots Q (F0 m 1382 ls []) := by
  have C0 := C
  obtain ⟨hx, hb, hr, hml, hown, hts, hX, hbl, hlocks, hl0, hZ, hxS, hxD, hxN⟩ := C0
  have hbA : ¬ (fun q : Nat => s.heap.size ≤ q) b := Nat.not_le.mpr hbl
  have hcm : room_1.cells = 3101 := rfl
  have hsm : room_1.slots = 21269 := rfl
  refine lv_aload_n hx hb dL_law_1382 rfl (lv_at hl 4 rfl) ?_
  refine lv_aload_n hx hb dL_law_1383 rfl (lv_at hl 5 rfl) ?_
  refine lv_iload hx hb dL_law_1384 (lv_at hl 0 rfl) ?_
  refine lv_iconst (v := nI 1) hx hb dL_law_1386 (by decide) ?_
  refine kn_iadd hx hb dL_law_1387 ?_
  refine va_sld hx hb hX hbl hbA hS (sc_in (by omega) hL) dL_law_1388 ?_
  refine kt_i (y := x1) h1 ?_
  refine lv_aload hx hb dL_law_1389 (lv_at hl 1 rfl) ?_
  refine lw_wrapD (As := [.ref h0, .int x1, .ref qd]) C hP hD hS hK hl.1 (w_highest_bad l D h0 hn hd hq qd cZ cD cI nb v ln go mw oD R.1 hl0 H.size x1 hbad) (vx_cwSW 3 hts gL_law_L_highest rfl rfl rfl (by decide +kernel) ⟨Nat.le_of_ble_eq_true rfl, Nat.le_of_ble_eq_true rfl⟩) rfl dL_law_1391 (by omega) (by omega) (fun H locs hP hD hS => ?_)
  refine lv_istore (lv' := [(6, .int (nI 1)), (5, .int (nI i)), (4, .ref qd), (3, .ref qo), (2, .ref k0), (1, .ref h0), (0, .ref b)]) hx hb dL_law_1394 hl (by decide) rfl (fun ls hl => ?_)
  refine lv_aload_n hx hb dL_law_1396 rfl (lv_at hl 4 rfl) ?_
  refine lv_aload_n hx hb dL_law_1397 rfl (lv_at hl 6 rfl) ?_
  refine lv_iload hx hb dL_law_1398 (lv_at hl 1 rfl) ?_
  refine lv_iconst (v := nI 1) hx hb dL_law_1400 (by decide) ?_
  refine kn_iadd hx hb dL_law_1401 ?_
  refine va_sld hx hb hX hbl hbA hS (sc_in (by omega) hL) dL_law_1402 ?_
  refine kt_i (y := x1) h1 ?_
  refine lw_modd (As := [.int x1]) C hP hD hS hK hl.1 (c_X1_highest_bad l D k0 kv ko ks km kt kp kb cZ cD cI th mv io sz mk se pv pd go mw R.2.1 H.size x1 hbad) (cwV 1 hts gL_law_X1_highest rfl rfl rfl (by decide +kernel) ⟨Nat.le_of_ble_eq_true rfl, Nat.le_of_ble_eq_true rfl⟩) rfl dL_law_1403 (by omega) (by omega) (fun H locs hP hD hS => ?_)
  refine lv_dstore (lv' := [(7, .double FP.dconst0), (6, .int (nI 1)), (5, .int (nI i)), (4, .ref qd), (3, .ref qo), (2, .ref k0), (1, .ref h0), (0, .ref b)]) hx hb dL_law_1406 hl (by decide) rfl (fun ls hl => ?_)
  refine lv_aload_n hx hb dL_law_1408 rfl (lv_at hl 5 rfl) ?_
  refine lw_thrown (R).2.1 C hP hK hl.1 dL_law_1409 (by omega) (by omega) ?_
  refine kt_i (y := nI 1) (rfl) ?_
  refine lv_iload hx hb dL_law_1412 (lv_at hl 1 rfl) ?_
  refine kn_icmp_eq (tgt := 1419) hx hb (by decide) (by decide) dL_law_1414 (by decide) (fun _ => ?_) (fun h => absurd h (by decide))
  refine lv_iload hx hb dL_law_1419 (lv_at hl 1 rfl) ?_
  refine kn_ne (tgt := 1456) hx hb (by decide) dL_law_1421 (by decide) (fun _ => ?_) (fun h => absurd h (by decide))
  refine lv_goto (tgt := 1745) hx hb dL_law_1456 (by decide) ?_
  refine W.widen (k := cells + 6) (n := slots + 40) (by omega) (by omega) ?_
  exact N R hP hD hS (lv_sub hl [2, 3, 4, 5, 6, 7] rfl)
set_option maxHeartbeats 4000000 in
set_option maxRecDepth 100000 in
theorem cs_calmest {g : Nat} (hg : g < 6) (hsome : bs nb v (g * 2 + 1) 0 (ln (g * 2 + 1)) ≠ 164) (h1 : xs (nI (i + 1)).toNatClampNeg = nI g) (R : Rl nb v ln io mv sz mk se pv pd) (C : LwC l p s m meth c b L xs) (hL : L ≤ 2560) (hi : i + 4 < L) (hK : va_K D vwCl (TYL cZ cD cI cJ) s) (hP : va_P D vwCl (WA h0 hn hd hq k0 kv ko ks km kt kp kb qo qd cZ cD cI cJ nb v ln go mw th mv io sz mk se pv pd go mw oL oD) H) (hD : va_D (fun q : Nat => s.heap.size ≤ q) (WA h0 hn hd hq k0 kv ko ks km kt kp kb qo qd cZ cD cI cJ nb v ln go mw th mv io sz mk se pv pd go mw oL oD)) (hS : va_S (fun q : Nat => s.heap.size ≤ q) s.heap H locs) (hl : lv_has ls 9 [(5, .int (nI i)), (4, .ref qd), (3, .ref qo), (2, .ref k0), (1, .ref h0), (0, .ref b)]) (hcc : cells + 6 ≤ 3101) (hss : slots + 40 ≤ 21269) (N : LwN p l e s m below meth c b Q D h0 hn hd hq k0 kv ko ks km kt kp kb qo qd cZ cD cI cJ i (cells + 6) (slots + 40)) : W p l e room_1 s m #[Value.ref b] below meth c H locs cells slots Q (F0 m 1459 ls []) := by
  have C0 := C
  obtain ⟨hx, hb, hr, hml, hown, hts, hX, hbl, hlocks, hl0, hZ, hxS, hxD, hxN⟩ := C0
  have hbA : ¬ (fun q : Nat => s.heap.size ≤ q) b := Nat.not_le.mpr hbl
  have hcm : room_1.cells = 3101 := rfl
  have hsm : room_1.slots = 21269 := rfl
  obtain ⟨hb1, hb2, hb3⟩ := R.best_some (t := g * 2 + 1) (k := 0) (y := 1) (by omega) (Or.inr ⟨rfl, rfl⟩) hsome
  have hnn : vf_n32 (FP.d2f (v (bs nb v (g * 2 + 1) 0 (ln (g * 2 + 1))))) := n32_of (by rw [FP.d2f_nan]; exact hb3)
  have hu : num (FP.f2d (FP.d2f (v (bs nb v (g * 2 + 1) 0 (ln (g * 2 + 1)))))) := by show FP.dIsNaN _ = false; rw [FP.f2d_nan, FP.d2f_nan]; exact hb3
  have hn2 : vf_n64 (FP.f2d (FP.d2f (v (bs nb v (g * 2 + 1) 0 (ln (g * 2 + 1)))))) := n64_of hu
  have hn3 : vf_n64 (FP.f2d (FP.d2f (mv (bs nb v (g * 2 + 1) 0 (ln (g * 2 + 1)))))) := by rw [hb2]; exact hn2
  refine lv_aload_n hx hb dL_law_1459 rfl (lv_at hl 4 rfl) ?_
  refine lv_aload_n hx hb dL_law_1460 rfl (lv_at hl 5 rfl) ?_
  refine lv_iload hx hb dL_law_1461 (lv_at hl 0 rfl) ?_
  refine lv_iconst (v := nI 1) hx hb dL_law_1463 (by decide) ?_
  refine kn_iadd hx hb dL_law_1464 ?_
  refine va_sld hx hb hX hbl hbA hS (sc_in (by omega) hL) dL_law_1465 ?_
  refine kt_i (y := nI g) h1 ?_
  refine lv_aload hx hb dL_law_1466 (lv_at hl 1 rfl) ?_
  refine lw_wrapD (As := [.ref h0, .int (nI g), .ref qd]) C hP hD hS hK hl.1 (w_calmest l D h0 hn hd hq qd cZ cD cI nb v ln go mw oD R.1 hl0 H.size g hg hsome hnn hn2) (vx_cwSW 3 hts gL_law_L_calmest rfl rfl rfl (by decide +kernel) ⟨Nat.le_of_ble_eq_true rfl, Nat.le_of_ble_eq_true rfl⟩) rfl dL_law_1468 (by omega) (by omega) (fun H locs hP hD hS => ?_)
  refine lv_istore (lv' := [(6, .int (nI 0)), (5, .int (nI i)), (4, .ref qd), (3, .ref qo), (2, .ref k0), (1, .ref h0), (0, .ref b)]) hx hb dL_law_1471 hl (by decide) rfl (fun ls hl => ?_)
  refine lv_aload_n hx hb dL_law_1473 rfl (lv_at hl 4 rfl) ?_
  refine lv_aload_n hx hb dL_law_1474 rfl (lv_at hl 6 rfl) ?_
  refine lv_iload hx hb dL_law_1475 (lv_at hl 1 rfl) ?_
  refine lv_iconst (v := nI 1) hx hb dL_law_1477 (by decide) ?_
  refine kn_iadd hx hb dL_law_1478 ?_
  refine va_sld hx hb hX hbl hbA hS (sc_in (by omega) hL) dL_law_1479 ?_
  refine kt_i (y := nI g) h1 ?_
  refine lw_modf (As := [.int (nI g)]) C hP hD hS hK hl.1 (c_X1_calmest l D k0 kv ko ks km kt kp kb cZ cD cI th mv io sz mk se pv pd go mw R.2.1 H.size g (bs nb v (g * 2 + 1) 0 (ln (g * 2 + 1))) hg (by rw [show 2 * g + 1 = g * 2 + 1 by omega]; exact hb1) (by rw [hb2]; exact hnn)) (cwV 1 hts gL_law_X1_calmest rfl rfl rfl (by decide +kernel) ⟨Nat.le_of_ble_eq_true rfl, Nat.le_of_ble_eq_true rfl⟩) rfl dL_law_1480 (by omega) (by omega) (fun H locs hP hD hS => ?_)
  refine lv_fstore (lv' := [(7, .float (FP.d2f (mv (bs nb v (g * 2 + 1) 0 (ln (g * 2 + 1)))))), (6, .int (nI 0)), (5, .int (nI i)), (4, .ref qd), (3, .ref qo), (2, .ref k0), (1, .ref h0), (0, .ref b)]) hx hb dL_law_1483 hl (by decide) rfl (fun ls hl => ?_)
  refine lv_aload_n hx hb dL_law_1485 rfl (lv_at hl 5 rfl) ?_
  refine lw_thrown (R).2.1 C hP hK hl.1 dL_law_1486 (by omega) (by omega) ?_
  refine kt_i (y := nI 0) (rfl) ?_
  refine lv_iload hx hb dL_law_1489 (lv_at hl 1 rfl) ?_
  refine kn_icmp_eq (tgt := 1496) hx hb (by decide) (by decide) dL_law_1491 (by decide) (fun _ => ?_) (fun h => absurd h (by decide))
  refine lv_iload hx hb dL_law_1496 (lv_at hl 1 rfl) ?_
  refine kn_ne (tgt := 1534) hx hb (by decide) dL_law_1498 (by decide) (fun h => absurd h (by decide)) (fun _ => ?_)
  refine lv_aload hx hb dL_law_1501 (lv_at hl 3 rfl) ?_
  refine lv_iconst (v := nI 0) hx hb dL_law_1503 (by decide) ?_
  refine kn_dald hx hb hK hP 13 1 rfl rfl (by decide) (by decide) dL_law_1504 ?_
  refine lv_fload hx hb dL_law_1505 (lv_at hl 0 rfl) ?_
  refine lv_f2d hx hb dL_law_1507 hn3 ?_
  have hq9 : oEq (FP.dcmp ((up oD 0 (FP.f2d (FP.d2f (v (bs nb v (g * 2 + 1) 0 (ln (g * 2 + 1))))))) 0) (FP.f2d (FP.d2f (mv (bs nb v (g * 2 + 1) 0 (ln (g * 2 + 1))))))) = true := by rw [up_s, hb2]; exact oEq_self hu
  refine kc_dl_eq (tgt := 1534) hx hb dL_law_1508 dL_law_1509 (by decide) (fun _ => ?_) (fun h => absurd (hq9.symm.trans h) (by decide))
  refine lv_goto (tgt := 1745) hx hb dL_law_1534 (by decide) ?_
  refine W.widen (k := cells + 6) (n := slots + 40) (by omega) (by omega) ?_
  exact N R hP hD hS (lv_sub hl [2, 3, 4, 5, 6, 7] rfl)
set_option maxHeartbeats 4000000 in
set_option maxRecDepth 100000 in
theorem cs_calmest_none {g : Nat} (hg : g < 6) (hnone : bs nb v (g * 2 + 1) 0 (ln (g * 2 + 1)) = 164) (h1 : xs (nI (i + 1)).toNatClampNeg = nI g) (R : Rl nb v ln io mv sz mk se pv pd) (C : LwC l p s m meth c b L xs) (hL : L ≤ 2560) (hi : i + 4 < L) (hK : va_K D vwCl (TYL cZ cD cI cJ) s) (hP : va_P D vwCl (WA h0 hn hd hq k0 kv ko ks km kt kp kb qo qd cZ cD cI cJ nb v ln go mw th mv io sz mk se pv pd go mw oL oD) H) (hD : va_D (fun q : Nat => s.heap.size ≤ q) (WA h0 hn hd hq k0 kv ko ks km kt kp kb qo qd cZ cD cI cJ nb v ln go mw th mv io sz mk se pv pd go mw oL oD)) (hS : va_S (fun q : Nat => s.heap.size ≤ q) s.heap H locs) (hl : lv_has ls 9 [(5, .int (nI i)), (4, .ref qd), (3, .ref qo), (2, .ref k0), (1, .ref h0), (0, .ref b)]) (hcc : cells + 6 ≤ 3101) (hss : slots + 40 ≤ 21269) (N : LwN p l e s m below meth c b Q D h0 hn hd hq k0 kv ko ks km kt kp kb qo qd cZ cD cI cJ i (cells + 6) (slots + 40)) : W p l e room_1 s m #[Value.ref b] below meth c H locs cells slots Q (F0 m 1459 ls []) := by
  have C0 := C
  obtain ⟨hx, hb, hr, hml, hown, hts, hX, hbl, hlocks, hl0, hZ, hxS, hxD, hxN⟩ := C0
  have hbA : ¬ (fun q : Nat => s.heap.size ≤ q) b := Nat.not_le.mpr hbl
  have hcm : room_1.cells = 3101 := rfl
  have hsm : room_1.slots = 21269 := rfl
  have hb1 := R.best_none (t := g * 2 + 1) (k := 0) (y := 1) (by omega) (Or.inr ⟨rfl, rfl⟩) hnone
  refine lv_aload_n hx hb dL_law_1459 rfl (lv_at hl 4 rfl) ?_
  refine lv_aload_n hx hb dL_law_1460 rfl (lv_at hl 5 rfl) ?_
  refine lv_iload hx hb dL_law_1461 (lv_at hl 0 rfl) ?_
  refine lv_iconst (v := nI 1) hx hb dL_law_1463 (by decide) ?_
  refine kn_iadd hx hb dL_law_1464 ?_
  refine va_sld hx hb hX hbl hbA hS (sc_in (by omega) hL) dL_law_1465 ?_
  refine kt_i (y := nI g) h1 ?_
  refine lv_aload hx hb dL_law_1466 (lv_at hl 1 rfl) ?_
  refine lw_wrapD (As := [.ref h0, .int (nI g), .ref qd]) C hP hD hS hK hl.1 (w_calmest_none l D h0 hn hd hq qd cZ cD cI nb v ln go mw oD R.1 hl0 H.size g hg hnone) (vx_cwSW 3 hts gL_law_L_calmest rfl rfl rfl (by decide +kernel) ⟨Nat.le_of_ble_eq_true rfl, Nat.le_of_ble_eq_true rfl⟩) rfl dL_law_1468 (by omega) (by omega) (fun H locs hP hD hS => ?_)
  refine lv_istore (lv' := [(6, .int (nI 2)), (5, .int (nI i)), (4, .ref qd), (3, .ref qo), (2, .ref k0), (1, .ref h0), (0, .ref b)]) hx hb dL_law_1471 hl (by decide) rfl (fun ls hl => ?_)
  refine lv_aload_n hx hb dL_law_1473 rfl (lv_at hl 4 rfl) ?_
  refine lv_aload_n hx hb dL_law_1474 rfl (lv_at hl 6 rfl) ?_
  refine lv_iload hx hb dL_law_1475 (lv_at hl 1 rfl) ?_
  refine lv_iconst (v := nI 1) hx hb dL_law_1477 (by decide) ?_
  refine kn_iadd hx hb dL_law_1478 ?_
  refine va_sld hx hb hX hbl hbA hS (sc_in (by omega) hL) dL_law_1479 ?_
  refine kt_i (y := nI g) h1 ?_
  refine lw_modf (As := [.int (nI g)]) C hP hD hS hK hl.1 (c_X1_calmest_none l D k0 kv ko ks km kt kp kb cZ cD cI th mv io sz mk se pv pd go mw R.2.1 H.size g hg (by rw [show 2 * g + 1 = g * 2 + 1 by omega]; exact hb1)) (cwV 1 hts gL_law_X1_calmest rfl rfl rfl (by decide +kernel) ⟨Nat.le_of_ble_eq_true rfl, Nat.le_of_ble_eq_true rfl⟩) rfl dL_law_1480 (by omega) (by omega) (fun H locs hP hD hS => ?_)
  refine lv_fstore (lv' := [(7, .float FP.fconst0), (6, .int (nI 2)), (5, .int (nI i)), (4, .ref qd), (3, .ref qo), (2, .ref k0), (1, .ref h0), (0, .ref b)]) hx hb dL_law_1483 hl (by decide) rfl (fun ls hl => ?_)
  refine lv_aload_n hx hb dL_law_1485 rfl (lv_at hl 5 rfl) ?_
  refine lw_thrown (R).2.1 C hP hK hl.1 dL_law_1486 (by omega) (by omega) ?_
  refine kt_i (y := nI 2) (rfl) ?_
  refine lv_iload hx hb dL_law_1489 (lv_at hl 1 rfl) ?_
  refine kn_icmp_eq (tgt := 1496) hx hb (by decide) (by decide) dL_law_1491 (by decide) (fun _ => ?_) (fun h => absurd h (by decide))
  refine lv_iload hx hb dL_law_1496 (lv_at hl 1 rfl) ?_
  refine kn_ne (tgt := 1534) hx hb (by decide) dL_law_1498 (by decide) (fun _ => ?_) (fun h => absurd h (by decide))
  refine lv_goto (tgt := 1745) hx hb dL_law_1534 (by decide) ?_
  refine W.widen (k := cells + 6) (n := slots + 40) (by omega) (by omega) ?_
  exact N R hP hD hS (lv_sub hl [2, 3, 4, 5, 6, 7] rfl)
set_option maxHeartbeats 4000000 in
set_option maxRecDepth 100000 in
theorem cs_calmest_bad {x1 : Int32} (hbad : ¬ (InN 6 x1)) (h1 : xs (nI (i + 1)).toNatClampNeg = x1) (R : Rl nb v ln io mv sz mk se pv pd) (C : LwC l p s m meth c b L xs) (hL : L ≤ 2560) (hi : i + 4 < L) (hK : va_K D vwCl (TYL cZ cD cI cJ) s) (hP : va_P D vwCl (WA h0 hn hd hq k0 kv ko ks km kt kp kb qo qd cZ cD cI cJ nb v ln go mw th mv io sz mk se pv pd go mw oL oD) H) (hD : va_D (fun q : Nat => s.heap.size ≤ q) (WA h0 hn hd hq k0 kv ko ks km kt kp kb qo qd cZ cD cI cJ nb v ln go mw th mv io sz mk se pv pd go mw oL oD)) (hS : va_S (fun q : Nat => s.heap.size ≤ q) s.heap H locs) (hl : lv_has ls 9 [(5, .int (nI i)), (4, .ref qd), (3, .ref qo), (2, .ref k0), (1, .ref h0), (0, .ref b)]) (hcc : cells + 6 ≤ 3101) (hss : slots + 40 ≤ 21269) (N : LwN p l e s m below meth c b Q D h0 hn hd hq k0 kv ko ks km kt kp kb qo qd cZ cD cI cJ i (cells + 6) (slots + 40)) : W p l e room_1 s m #[Value.ref b] below meth c H locs cells slots Q (F0 m 1459 ls []) := by
  have C0 := C
  obtain ⟨hx, hb, hr, hml, hown, hts, hX, hbl, hlocks, hl0, hZ, hxS, hxD, hxN⟩ := C0
  have hbA : ¬ (fun q : Nat => s.heap.size ≤ q) b := Nat.not_le.mpr hbl
  have hcm : room_1.cells = 3101 := rfl
  have hsm : room_1.slots = 21269 := rfl
  refine lv_aload_n hx hb dL_law_1459 rfl (lv_at hl 4 rfl) ?_
  refine lv_aload_n hx hb dL_law_1460 rfl (lv_at hl 5 rfl) ?_
  refine lv_iload hx hb dL_law_1461 (lv_at hl 0 rfl) ?_
  refine lv_iconst (v := nI 1) hx hb dL_law_1463 (by decide) ?_
  refine kn_iadd hx hb dL_law_1464 ?_
  refine va_sld hx hb hX hbl hbA hS (sc_in (by omega) hL) dL_law_1465 ?_
  refine kt_i (y := x1) h1 ?_
  refine lv_aload hx hb dL_law_1466 (lv_at hl 1 rfl) ?_
  refine lw_wrapD (As := [.ref h0, .int x1, .ref qd]) C hP hD hS hK hl.1 (w_calmest_bad l D h0 hn hd hq qd cZ cD cI nb v ln go mw oD R.1 hl0 H.size x1 hbad) (vx_cwSW 3 hts gL_law_L_calmest rfl rfl rfl (by decide +kernel) ⟨Nat.le_of_ble_eq_true rfl, Nat.le_of_ble_eq_true rfl⟩) rfl dL_law_1468 (by omega) (by omega) (fun H locs hP hD hS => ?_)
  refine lv_istore (lv' := [(6, .int (nI 1)), (5, .int (nI i)), (4, .ref qd), (3, .ref qo), (2, .ref k0), (1, .ref h0), (0, .ref b)]) hx hb dL_law_1471 hl (by decide) rfl (fun ls hl => ?_)
  refine lv_aload_n hx hb dL_law_1473 rfl (lv_at hl 4 rfl) ?_
  refine lv_aload_n hx hb dL_law_1474 rfl (lv_at hl 6 rfl) ?_
  refine lv_iload hx hb dL_law_1475 (lv_at hl 1 rfl) ?_
  refine lv_iconst (v := nI 1) hx hb dL_law_1477 (by decide) ?_
  refine kn_iadd hx hb dL_law_1478 ?_
  refine va_sld hx hb hX hbl hbA hS (sc_in (by omega) hL) dL_law_1479 ?_
  refine kt_i (y := x1) h1 ?_
  refine lw_modf (As := [.int x1]) C hP hD hS hK hl.1 (c_X1_calmest_bad l D k0 kv ko ks km kt kp kb cZ cD cI th mv io sz mk se pv pd go mw R.2.1 H.size x1 hbad) (cwV 1 hts gL_law_X1_calmest rfl rfl rfl (by decide +kernel) ⟨Nat.le_of_ble_eq_true rfl, Nat.le_of_ble_eq_true rfl⟩) rfl dL_law_1480 (by omega) (by omega) (fun H locs hP hD hS => ?_)
  refine lv_fstore (lv' := [(7, .float FP.fconst0), (6, .int (nI 1)), (5, .int (nI i)), (4, .ref qd), (3, .ref qo), (2, .ref k0), (1, .ref h0), (0, .ref b)]) hx hb dL_law_1483 hl (by decide) rfl (fun ls hl => ?_)
  refine lv_aload_n hx hb dL_law_1485 rfl (lv_at hl 5 rfl) ?_
  refine lw_thrown (R).2.1 C hP hK hl.1 dL_law_1486 (by omega) (by omega) ?_
  refine kt_i (y := nI 1) (rfl) ?_
  refine lv_iload hx hb dL_law_1489 (lv_at hl 1 rfl) ?_
  refine kn_icmp_eq (tgt := 1496) hx hb (by decide) (by decide) dL_law_1491 (by decide) (fun _ => ?_) (fun h => absurd h (by decide))
  refine lv_iload hx hb dL_law_1496 (lv_at hl 1 rfl) ?_
  refine kn_ne (tgt := 1534) hx hb (by decide) dL_law_1498 (by decide) (fun _ => ?_) (fun h => absurd h (by decide))
  refine lv_goto (tgt := 1745) hx hb dL_law_1534 (by decide) ?_
  refine W.widen (k := cells + 6) (n := slots + 40) (by omega) (by omega) ?_
  exact N R hP hD hS (lv_sub hl [2, 3, 4, 5, 6, 7] rfl)
set_option maxHeartbeats 4000000 in
set_option maxRecDepth 100000 in
theorem cs_move_open {x1 : Int32} (hz : ¬ x1 = 0) (hgo : go = false) (ho1 : rp nb v (lp ln (0 * 2 + 0)) (lp ln (1 * 2 + 0)) 2 = true) (ho2 : nb (144 + 1 * 3 + 2) = false ∨ rp nb v (lp ln (1 * 2 + 1)) (144 + 1 * 3 + 2) 0 = true) (h1 : xs (nI (i + 1)).toNatClampNeg = x1) (R : Rl nb v ln io mv sz mk se pv pd) (C : LwC l p s m meth c b L xs) (hL : L ≤ 2560) (hi : i + 4 < L) (hK : va_K D vwCl (TYL cZ cD cI cJ) s) (hP : va_P D vwCl (WA h0 hn hd hq k0 kv ko ks km kt kp kb qo qd cZ cD cI cJ nb v ln go mw th mv io sz mk se pv pd go mw oL oD) H) (hD : va_D (fun q : Nat => s.heap.size ≤ q) (WA h0 hn hd hq k0 kv ko ks km kt kp kb qo qd cZ cD cI cJ nb v ln go mw th mv io sz mk se pv pd go mw oL oD)) (hS : va_S (fun q : Nat => s.heap.size ≤ q) s.heap H locs) (hl : lv_has ls 9 [(5, .int (nI i)), (4, .ref qd), (3, .ref qo), (2, .ref k0), (1, .ref h0), (0, .ref b)]) (hcc : cells + 6 ≤ 3101) (hss : slots + 40 ≤ 21269) (N : LwN p l e s m below meth c b Q D h0 hn hd hq k0 kv ko ks km kt kp kb qo qd cZ cD cI cJ i (cells + 6) (slots + 40)) : W p l e room_1 s m #[Value.ref b] below meth c H locs cells slots Q (F0 m 1605 ls []) := by
  have C0 := C
  obtain ⟨hx, hb, hr, hml, hown, hts, hX, hbl, hlocks, hl0, hZ, hxS, hxD, hxN⟩ := C0
  have hbA : ¬ (fun q : Nat => s.heap.size ≤ q) b := Nat.not_le.mpr hbl
  have hcm : room_1.cells = 3101 := rfl
  have hsm : room_1.slots = 21269 := rfl
  have hT : tMo io mv sz mk se go = 0 := by rw [R.tMoE, if_neg (by rw [hgo]; decide), if_neg (by rw [ho1]; decide), if_neg (fun z => ho2.elim (fun q => absurd (q.symm.trans z.1) (by decide)) (fun q => absurd (q.symm.trans z.2) (by decide)))]
  refine lv_aload_n hx hb dL_law_1605 rfl (lv_at hl 4 rfl) ?_
  refine lv_aload_n hx hb dL_law_1606 rfl (lv_at hl 5 rfl) ?_
  refine lv_iload hx hb dL_law_1607 (lv_at hl 0 rfl) ?_
  refine lv_iconst (v := nI 1) hx hb dL_law_1609 (by decide) ?_
  refine kn_iadd hx hb dL_law_1610 ?_
  refine va_sld hx hb hX hbl hbA hS (sc_in (by omega) hL) dL_law_1611 ?_
  refine kt_i (y := x1) h1 ?_
  refine lv_if_eq (tgt := 1619) hx hb dL_law_1612 (by decide) (fun h => absurd h hz) (fun c_x => ?_)
  refine lv_iconst (v := nI 1) hx hb dL_law_1615 (by decide) ?_
  refine kt_i (y := b2i true) (by decide) ?_
  refine lv_goto (tgt := 1620) hx hb dL_law_1616 (by decide) ?_
  refine lv_aload_n hx hb dL_law_1620 rfl (lv_at hl 2 rfl) ?_
  refine lw_wrapL (As := [.ref h0, .int (b2i true), .ref qo]) C hP hD hS hK hl.1 (w_move_open l D h0 hn hd hq qo cZ cD cI cJ nb v ln go mw oL R.1 hl0 H.size  hgo ho1 ho2) (vx_cwSW 3 hts gL_law_L_move rfl rfl rfl (by decide +kernel) ⟨Nat.le_of_ble_eq_true rfl, Nat.le_of_ble_eq_true rfl⟩) rfl dL_law_1621 (by omega) (by omega) (fun H locs hP hD hS => ?_)
  refine lv_istore (lv' := [(6, .int (nI 0)), (5, .int (nI i)), (4, .ref qd), (3, .ref qo), (2, .ref k0), (1, .ref h0), (0, .ref b)]) hx hb dL_law_1624 hl (by decide) rfl (fun ls hl => ?_)
  refine lv_aload_n hx hb dL_law_1626 rfl (lv_at hl 4 rfl) ?_
  refine lv_aload_n hx hb dL_law_1627 rfl (lv_at hl 6 rfl) ?_
  refine lv_iload hx hb dL_law_1628 (lv_at hl 1 rfl) ?_
  refine lv_iconst (v := nI 1) hx hb dL_law_1630 (by decide) ?_
  refine kn_iadd hx hb dL_law_1631 ?_
  refine va_sld hx hb hX hbl hbA hS (sc_in (by omega) hL) dL_law_1632 ?_
  refine kt_i (y := x1) h1 ?_
  refine lv_if_eq (tgt := 1640) hx hb dL_law_1633 (by decide) (fun h => absurd h hz) (fun c_x => ?_)
  refine lv_iconst (v := nI 1) hx hb dL_law_1636 (by decide) ?_
  refine kt_i (y := b2i true) (by decide) ?_
  refine lv_goto (tgt := 1641) hx hb dL_law_1637 (by decide) ?_
  have hM9 := c_X1_move_true l D k0 kv ko ks km kt kp kb cZ cD cI th mv io sz mk se pv pd go mw R.2.1 H.size  
  rw [hT] at hM9
  refine lw_modi (As := [.int (b2i true)]) C hP hD hS hK hl.1 (hM9) (cwV 1 hts gL_law_X1_move rfl rfl rfl (by decide +kernel) ⟨Nat.le_of_ble_eq_true rfl, Nat.le_of_ble_eq_true rfl⟩) rfl dL_law_1641 (by omega) (by omega) (fun H locs hP hD hS => ?_)
  refine kt_i (y := mw + 1) rfl ?_
  have hP : va_P D vwCl (WA h0 hn hd hq k0 kv ko ks km kt kp kb qo qd cZ cD cI cJ nb v ln true (mw + 1) 0 mv io sz mk se pv pd true (mw + 1) (up oL 0 (Int32.toInt64 (mw + 1))) oD) H := hP
  have hD : va_D (fun q : Nat => s.heap.size ≤ q) (WA h0 hn hd hq k0 kv ko ks km kt kp kb qo qd cZ cD cI cJ nb v ln true (mw + 1) 0 mv io sz mk se pv pd true (mw + 1) (up oL 0 (Int32.toInt64 (mw + 1))) oD) := hD
  refine lv_istore (lv' := [(7, .int (mw + 1)), (6, .int (nI 0)), (5, .int (nI i)), (4, .ref qd), (3, .ref qo), (2, .ref k0), (1, .ref h0), (0, .ref b)]) hx hb dL_law_1644 hl (by decide) rfl (fun ls hl => ?_)
  refine lv_aload_n hx hb dL_law_1646 rfl (lv_at hl 5 rfl) ?_
  refine lw_thrown (R).2.1 C hP hK hl.1 dL_law_1647 (by omega) (by omega) ?_
  refine kt_i (y := nI 0) (rfl) ?_
  refine lv_iload hx hb dL_law_1650 (lv_at hl 1 rfl) ?_
  refine kn_icmp_eq (tgt := 1657) hx hb (by decide) (by decide) dL_law_1652 (by decide) (fun _ => ?_) (fun h => absurd h (by decide))
  refine lv_iload hx hb dL_law_1657 (lv_at hl 1 rfl) ?_
  refine kn_ne (tgt := 1674) hx hb (by decide) dL_law_1659 (by decide) (fun h => absurd h (by decide)) (fun _ => ?_)
  refine lv_aload_n hx hb dL_law_1662 rfl (lv_at hl 4 rfl) ?_
  refine lv_iconst (v := nI 0) hx hb dL_law_1663 (by decide) ?_
  refine kn_lald hx hb hK hP 12 3 rfl rfl (by decide) (by decide) dL_law_1664 ?_
  refine lv_iload hx hb dL_law_1665 (lv_at hl 0 rfl) ?_
  refine lv_i2l hx hb dL_law_1667 rfl ?_
  refine W.lcmp hx hb dL_law_1668 ?_
  refine lv_if_eq (tgt := 1674) hx hb dL_law_1669 (by decide) (fun c_x => ?_) (fun h => absurd (lc_eq (up_s _ _ _)) h)
  refine lv_goto (tgt := 1745) hx hb dL_law_1674 (by decide) ?_
  refine W.widen (k := cells + 6) (n := slots + 40) (by omega) (by omega) ?_
  exact N R hP hD hS (lv_sub hl [2, 3, 4, 5, 6, 7] rfl)
set_option maxHeartbeats 4000000 in
set_option maxRecDepth 100000 in
theorem cs_move_already_true {x1 : Int32} (hz : ¬ x1 = 0) (hgo : go = true) (h1 : xs (nI (i + 1)).toNatClampNeg = x1) (R : Rl nb v ln io mv sz mk se pv pd) (C : LwC l p s m meth c b L xs) (hL : L ≤ 2560) (hi : i + 4 < L) (hK : va_K D vwCl (TYL cZ cD cI cJ) s) (hP : va_P D vwCl (WA h0 hn hd hq k0 kv ko ks km kt kp kb qo qd cZ cD cI cJ nb v ln go mw th mv io sz mk se pv pd go mw oL oD) H) (hD : va_D (fun q : Nat => s.heap.size ≤ q) (WA h0 hn hd hq k0 kv ko ks km kt kp kb qo qd cZ cD cI cJ nb v ln go mw th mv io sz mk se pv pd go mw oL oD)) (hS : va_S (fun q : Nat => s.heap.size ≤ q) s.heap H locs) (hl : lv_has ls 9 [(5, .int (nI i)), (4, .ref qd), (3, .ref qo), (2, .ref k0), (1, .ref h0), (0, .ref b)]) (hcc : cells + 6 ≤ 3101) (hss : slots + 40 ≤ 21269) (N : LwN p l e s m below meth c b Q D h0 hn hd hq k0 kv ko ks km kt kp kb qo qd cZ cD cI cJ i (cells + 6) (slots + 40)) : W p l e room_1 s m #[Value.ref b] below meth c H locs cells slots Q (F0 m 1605 ls []) := by
  have C0 := C
  obtain ⟨hx, hb, hr, hml, hown, hts, hX, hbl, hlocks, hl0, hZ, hxS, hxD, hxN⟩ := C0
  have hbA : ¬ (fun q : Nat => s.heap.size ≤ q) b := Nat.not_le.mpr hbl
  have hcm : room_1.cells = 3101 := rfl
  have hsm : room_1.slots = 21269 := rfl
  have hT : tMo io mv sz mk se go = 1 := by rw [R.tMoE, if_pos hgo]
  refine lv_aload_n hx hb dL_law_1605 rfl (lv_at hl 4 rfl) ?_
  refine lv_aload_n hx hb dL_law_1606 rfl (lv_at hl 5 rfl) ?_
  refine lv_iload hx hb dL_law_1607 (lv_at hl 0 rfl) ?_
  refine lv_iconst (v := nI 1) hx hb dL_law_1609 (by decide) ?_
  refine kn_iadd hx hb dL_law_1610 ?_
  refine va_sld hx hb hX hbl hbA hS (sc_in (by omega) hL) dL_law_1611 ?_
  refine kt_i (y := x1) h1 ?_
  refine lv_if_eq (tgt := 1619) hx hb dL_law_1612 (by decide) (fun h => absurd h hz) (fun c_x => ?_)
  refine lv_iconst (v := nI 1) hx hb dL_law_1615 (by decide) ?_
  refine kt_i (y := b2i true) (by decide) ?_
  refine lv_goto (tgt := 1620) hx hb dL_law_1616 (by decide) ?_
  refine lv_aload_n hx hb dL_law_1620 rfl (lv_at hl 2 rfl) ?_
  refine lw_wrapL (As := [.ref h0, .int (b2i true), .ref qo]) C hP hD hS hK hl.1 (w_move_already_true l D h0 hn hd hq qo cZ cD cI cJ nb v ln go mw oL R.1 hl0 H.size  hgo) (vx_cwSW 3 hts gL_law_L_move rfl rfl rfl (by decide +kernel) ⟨Nat.le_of_ble_eq_true rfl, Nat.le_of_ble_eq_true rfl⟩) rfl dL_law_1621 (by omega) (by omega) (fun H locs hP hD hS => ?_)
  refine lv_istore (lv' := [(6, .int (nI 1)), (5, .int (nI i)), (4, .ref qd), (3, .ref qo), (2, .ref k0), (1, .ref h0), (0, .ref b)]) hx hb dL_law_1624 hl (by decide) rfl (fun ls hl => ?_)
  refine lv_aload_n hx hb dL_law_1626 rfl (lv_at hl 4 rfl) ?_
  refine lv_aload_n hx hb dL_law_1627 rfl (lv_at hl 6 rfl) ?_
  refine lv_iload hx hb dL_law_1628 (lv_at hl 1 rfl) ?_
  refine lv_iconst (v := nI 1) hx hb dL_law_1630 (by decide) ?_
  refine kn_iadd hx hb dL_law_1631 ?_
  refine va_sld hx hb hX hbl hbA hS (sc_in (by omega) hL) dL_law_1632 ?_
  refine kt_i (y := x1) h1 ?_
  refine lv_if_eq (tgt := 1640) hx hb dL_law_1633 (by decide) (fun h => absurd h hz) (fun c_x => ?_)
  refine lv_iconst (v := nI 1) hx hb dL_law_1636 (by decide) ?_
  refine kt_i (y := b2i true) (by decide) ?_
  refine lv_goto (tgt := 1641) hx hb dL_law_1637 (by decide) ?_
  have hM9 := c_X1_move_true l D k0 kv ko ks km kt kp kb cZ cD cI th mv io sz mk se pv pd go mw R.2.1 H.size  
  rw [hT] at hM9
  refine lw_modi (As := [.int (b2i true)]) C hP hD hS hK hl.1 (hM9) (cwV 1 hts gL_law_X1_move rfl rfl rfl (by decide +kernel) ⟨Nat.le_of_ble_eq_true rfl, Nat.le_of_ble_eq_true rfl⟩) rfl dL_law_1641 (by omega) (by omega) (fun H locs hP hD hS => ?_)
  refine kt_i (y := 0) rfl ?_
  have hP : va_P D vwCl (WA h0 hn hd hq k0 kv ko ks km kt kp kb qo qd cZ cD cI cJ nb v ln go mw 1 mv io sz mk se pv pd go mw oL oD) H := hP
  have hD : va_D (fun q : Nat => s.heap.size ≤ q) (WA h0 hn hd hq k0 kv ko ks km kt kp kb qo qd cZ cD cI cJ nb v ln go mw 1 mv io sz mk se pv pd go mw oL oD) := hD
  refine lv_istore (lv' := [(7, .int 0), (6, .int (nI 1)), (5, .int (nI i)), (4, .ref qd), (3, .ref qo), (2, .ref k0), (1, .ref h0), (0, .ref b)]) hx hb dL_law_1644 hl (by decide) rfl (fun ls hl => ?_)
  refine lv_aload_n hx hb dL_law_1646 rfl (lv_at hl 5 rfl) ?_
  refine lw_thrown (R).2.1 C hP hK hl.1 dL_law_1647 (by omega) (by omega) ?_
  refine kt_i (y := nI 1) (rfl) ?_
  refine lv_iload hx hb dL_law_1650 (lv_at hl 1 rfl) ?_
  refine kn_icmp_eq (tgt := 1657) hx hb (by decide) (by decide) dL_law_1652 (by decide) (fun _ => ?_) (fun h => absurd h (by decide))
  refine lv_iload hx hb dL_law_1657 (lv_at hl 1 rfl) ?_
  refine kn_ne (tgt := 1674) hx hb (by decide) dL_law_1659 (by decide) (fun _ => ?_) (fun h => absurd h (by decide))
  refine lv_goto (tgt := 1745) hx hb dL_law_1674 (by decide) ?_
  refine W.widen (k := cells + 6) (n := slots + 40) (by omega) (by omega) ?_
  exact N R hP hD hS (lv_sub hl [2, 3, 4, 5, 6, 7] rfl)
set_option maxHeartbeats 4000000 in
set_option maxRecDepth 100000 in
theorem cs_move_x1 {x1 : Int32} (hz : ¬ x1 = 0) (hgo : go = false) (ho1 : rp nb v (lp ln (0 * 2 + 0)) (lp ln (1 * 2 + 0)) 2 = false) (h1 : xs (nI (i + 1)).toNatClampNeg = x1) (R : Rl nb v ln io mv sz mk se pv pd) (C : LwC l p s m meth c b L xs) (hL : L ≤ 2560) (hi : i + 4 < L) (hK : va_K D vwCl (TYL cZ cD cI cJ) s) (hP : va_P D vwCl (WA h0 hn hd hq k0 kv ko ks km kt kp kb qo qd cZ cD cI cJ nb v ln go mw th mv io sz mk se pv pd go mw oL oD) H) (hD : va_D (fun q : Nat => s.heap.size ≤ q) (WA h0 hn hd hq k0 kv ko ks km kt kp kb qo qd cZ cD cI cJ nb v ln go mw th mv io sz mk se pv pd go mw oL oD)) (hS : va_S (fun q : Nat => s.heap.size ≤ q) s.heap H locs) (hl : lv_has ls 9 [(5, .int (nI i)), (4, .ref qd), (3, .ref qo), (2, .ref k0), (1, .ref h0), (0, .ref b)]) (hcc : cells + 6 ≤ 3101) (hss : slots + 40 ≤ 21269) (N : LwN p l e s m below meth c b Q D h0 hn hd hq k0 kv ko ks km kt kp kb qo qd cZ cD cI cJ i (cells + 6) (slots + 40)) : W p l e room_1 s m #[Value.ref b] below meth c H locs cells slots Q (F0 m 1605 ls []) := by
  have C0 := C
  obtain ⟨hx, hb, hr, hml, hown, hts, hX, hbl, hlocks, hl0, hZ, hxS, hxD, hxN⟩ := C0
  have hbA : ¬ (fun q : Nat => s.heap.size ≤ q) b := Nat.not_le.mpr hbl
  have hcm : room_1.cells = 3101 := rfl
  have hsm : room_1.slots = 21269 := rfl
  have hT : tMo io mv sz mk se go = 2 := by rw [R.tMoE, if_neg (by rw [hgo]; decide), if_pos ho1]
  refine lv_aload_n hx hb dL_law_1605 rfl (lv_at hl 4 rfl) ?_
  refine lv_aload_n hx hb dL_law_1606 rfl (lv_at hl 5 rfl) ?_
  refine lv_iload hx hb dL_law_1607 (lv_at hl 0 rfl) ?_
  refine lv_iconst (v := nI 1) hx hb dL_law_1609 (by decide) ?_
  refine kn_iadd hx hb dL_law_1610 ?_
  refine va_sld hx hb hX hbl hbA hS (sc_in (by omega) hL) dL_law_1611 ?_
  refine kt_i (y := x1) h1 ?_
  refine lv_if_eq (tgt := 1619) hx hb dL_law_1612 (by decide) (fun h => absurd h hz) (fun c_x => ?_)
  refine lv_iconst (v := nI 1) hx hb dL_law_1615 (by decide) ?_
  refine kt_i (y := b2i true) (by decide) ?_
  refine lv_goto (tgt := 1620) hx hb dL_law_1616 (by decide) ?_
  refine lv_aload_n hx hb dL_law_1620 rfl (lv_at hl 2 rfl) ?_
  refine lw_wrapL (As := [.ref h0, .int (b2i true), .ref qo]) C hP hD hS hK hl.1 (w_move_x1 l D h0 hn hd hq qo cZ cD cI cJ nb v ln go mw oL R.1 hl0 H.size  hgo ho1) (vx_cwSW 3 hts gL_law_L_move rfl rfl rfl (by decide +kernel) ⟨Nat.le_of_ble_eq_true rfl, Nat.le_of_ble_eq_true rfl⟩) rfl dL_law_1621 (by omega) (by omega) (fun H locs hP hD hS => ?_)
  refine lv_istore (lv' := [(6, .int (nI 2)), (5, .int (nI i)), (4, .ref qd), (3, .ref qo), (2, .ref k0), (1, .ref h0), (0, .ref b)]) hx hb dL_law_1624 hl (by decide) rfl (fun ls hl => ?_)
  refine lv_aload_n hx hb dL_law_1626 rfl (lv_at hl 4 rfl) ?_
  refine lv_aload_n hx hb dL_law_1627 rfl (lv_at hl 6 rfl) ?_
  refine lv_iload hx hb dL_law_1628 (lv_at hl 1 rfl) ?_
  refine lv_iconst (v := nI 1) hx hb dL_law_1630 (by decide) ?_
  refine kn_iadd hx hb dL_law_1631 ?_
  refine va_sld hx hb hX hbl hbA hS (sc_in (by omega) hL) dL_law_1632 ?_
  refine kt_i (y := x1) h1 ?_
  refine lv_if_eq (tgt := 1640) hx hb dL_law_1633 (by decide) (fun h => absurd h hz) (fun c_x => ?_)
  refine lv_iconst (v := nI 1) hx hb dL_law_1636 (by decide) ?_
  refine kt_i (y := b2i true) (by decide) ?_
  refine lv_goto (tgt := 1641) hx hb dL_law_1637 (by decide) ?_
  have hM9 := c_X1_move_true l D k0 kv ko ks km kt kp kb cZ cD cI th mv io sz mk se pv pd go mw R.2.1 H.size  
  rw [hT] at hM9
  refine lw_modi (As := [.int (b2i true)]) C hP hD hS hK hl.1 (hM9) (cwV 1 hts gL_law_X1_move rfl rfl rfl (by decide +kernel) ⟨Nat.le_of_ble_eq_true rfl, Nat.le_of_ble_eq_true rfl⟩) rfl dL_law_1641 (by omega) (by omega) (fun H locs hP hD hS => ?_)
  refine kt_i (y := 0) rfl ?_
  have hP : va_P D vwCl (WA h0 hn hd hq k0 kv ko ks km kt kp kb qo qd cZ cD cI cJ nb v ln go mw 2 mv io sz mk se pv pd go mw oL oD) H := hP
  have hD : va_D (fun q : Nat => s.heap.size ≤ q) (WA h0 hn hd hq k0 kv ko ks km kt kp kb qo qd cZ cD cI cJ nb v ln go mw 2 mv io sz mk se pv pd go mw oL oD) := hD
  refine lv_istore (lv' := [(7, .int 0), (6, .int (nI 2)), (5, .int (nI i)), (4, .ref qd), (3, .ref qo), (2, .ref k0), (1, .ref h0), (0, .ref b)]) hx hb dL_law_1644 hl (by decide) rfl (fun ls hl => ?_)
  refine lv_aload_n hx hb dL_law_1646 rfl (lv_at hl 5 rfl) ?_
  refine lw_thrown (R).2.1 C hP hK hl.1 dL_law_1647 (by omega) (by omega) ?_
  refine kt_i (y := nI 2) (rfl) ?_
  refine lv_iload hx hb dL_law_1650 (lv_at hl 1 rfl) ?_
  refine kn_icmp_eq (tgt := 1657) hx hb (by decide) (by decide) dL_law_1652 (by decide) (fun _ => ?_) (fun h => absurd h (by decide))
  refine lv_iload hx hb dL_law_1657 (lv_at hl 1 rfl) ?_
  refine kn_ne (tgt := 1674) hx hb (by decide) dL_law_1659 (by decide) (fun _ => ?_) (fun h => absurd h (by decide))
  refine lv_goto (tgt := 1745) hx hb dL_law_1674 (by decide) ?_
  refine W.widen (k := cells + 6) (n := slots + 40) (by omega) (by omega) ?_
  exact N R hP hD hS (lv_sub hl [2, 3, 4, 5, 6, 7] rfl)
set_option maxHeartbeats 4000000 in
set_option maxRecDepth 100000 in
theorem cs_move_x2 {x1 : Int32} (hz : ¬ x1 = 0) (hgo : go = false) (ho1 : rp nb v (lp ln (0 * 2 + 0)) (lp ln (1 * 2 + 0)) 2 = true) (ho2 : nb (144 + 1 * 3 + 2) = true) (ho3 : rp nb v (lp ln (1 * 2 + 1)) (144 + 1 * 3 + 2) 0 = false) (h1 : xs (nI (i + 1)).toNatClampNeg = x1) (R : Rl nb v ln io mv sz mk se pv pd) (C : LwC l p s m meth c b L xs) (hL : L ≤ 2560) (hi : i + 4 < L) (hK : va_K D vwCl (TYL cZ cD cI cJ) s) (hP : va_P D vwCl (WA h0 hn hd hq k0 kv ko ks km kt kp kb qo qd cZ cD cI cJ nb v ln go mw th mv io sz mk se pv pd go mw oL oD) H) (hD : va_D (fun q : Nat => s.heap.size ≤ q) (WA h0 hn hd hq k0 kv ko ks km kt kp kb qo qd cZ cD cI cJ nb v ln go mw th mv io sz mk se pv pd go mw oL oD)) (hS : va_S (fun q : Nat => s.heap.size ≤ q) s.heap H locs) (hl : lv_has ls 9 [(5, .int (nI i)), (4, .ref qd), (3, .ref qo), (2, .ref k0), (1, .ref h0), (0, .ref b)]) (hcc : cells + 6 ≤ 3101) (hss : slots + 40 ≤ 21269) (N : LwN p l e s m below meth c b Q D h0 hn hd hq k0 kv ko ks km kt kp kb qo qd cZ cD cI cJ i (cells + 6) (slots + 40)) : W p l e room_1 s m #[Value.ref b] below meth c H locs cells slots Q (F0 m 1605 ls []) := by
  have C0 := C
  obtain ⟨hx, hb, hr, hml, hown, hts, hX, hbl, hlocks, hl0, hZ, hxS, hxD, hxN⟩ := C0
  have hbA : ¬ (fun q : Nat => s.heap.size ≤ q) b := Nat.not_le.mpr hbl
  have hcm : room_1.cells = 3101 := rfl
  have hsm : room_1.slots = 21269 := rfl
  have hT : tMo io mv sz mk se go = 3 := by rw [R.tMoE, if_neg (by rw [hgo]; decide), if_neg (by rw [ho1]; decide), if_pos ⟨ho2, ho3⟩]
  refine lv_aload_n hx hb dL_law_1605 rfl (lv_at hl 4 rfl) ?_
  refine lv_aload_n hx hb dL_law_1606 rfl (lv_at hl 5 rfl) ?_
  refine lv_iload hx hb dL_law_1607 (lv_at hl 0 rfl) ?_
  refine lv_iconst (v := nI 1) hx hb dL_law_1609 (by decide) ?_
  refine kn_iadd hx hb dL_law_1610 ?_
  refine va_sld hx hb hX hbl hbA hS (sc_in (by omega) hL) dL_law_1611 ?_
  refine kt_i (y := x1) h1 ?_
  refine lv_if_eq (tgt := 1619) hx hb dL_law_1612 (by decide) (fun h => absurd h hz) (fun c_x => ?_)
  refine lv_iconst (v := nI 1) hx hb dL_law_1615 (by decide) ?_
  refine kt_i (y := b2i true) (by decide) ?_
  refine lv_goto (tgt := 1620) hx hb dL_law_1616 (by decide) ?_
  refine lv_aload_n hx hb dL_law_1620 rfl (lv_at hl 2 rfl) ?_
  refine lw_wrapL (As := [.ref h0, .int (b2i true), .ref qo]) C hP hD hS hK hl.1 (w_move_x2 l D h0 hn hd hq qo cZ cD cI cJ nb v ln go mw oL R.1 hl0 H.size  hgo ho1 ho2 ho3) (vx_cwSW 3 hts gL_law_L_move rfl rfl rfl (by decide +kernel) ⟨Nat.le_of_ble_eq_true rfl, Nat.le_of_ble_eq_true rfl⟩) rfl dL_law_1621 (by omega) (by omega) (fun H locs hP hD hS => ?_)
  refine lv_istore (lv' := [(6, .int (nI 3)), (5, .int (nI i)), (4, .ref qd), (3, .ref qo), (2, .ref k0), (1, .ref h0), (0, .ref b)]) hx hb dL_law_1624 hl (by decide) rfl (fun ls hl => ?_)
  refine lv_aload_n hx hb dL_law_1626 rfl (lv_at hl 4 rfl) ?_
  refine lv_aload_n hx hb dL_law_1627 rfl (lv_at hl 6 rfl) ?_
  refine lv_iload hx hb dL_law_1628 (lv_at hl 1 rfl) ?_
  refine lv_iconst (v := nI 1) hx hb dL_law_1630 (by decide) ?_
  refine kn_iadd hx hb dL_law_1631 ?_
  refine va_sld hx hb hX hbl hbA hS (sc_in (by omega) hL) dL_law_1632 ?_
  refine kt_i (y := x1) h1 ?_
  refine lv_if_eq (tgt := 1640) hx hb dL_law_1633 (by decide) (fun h => absurd h hz) (fun c_x => ?_)
  refine lv_iconst (v := nI 1) hx hb dL_law_1636 (by decide) ?_
  refine kt_i (y := b2i true) (by decide) ?_
  refine lv_goto (tgt := 1641) hx hb dL_law_1637 (by decide) ?_
  have hM9 := c_X1_move_true l D k0 kv ko ks km kt kp kb cZ cD cI th mv io sz mk se pv pd go mw R.2.1 H.size  
  rw [hT] at hM9
  refine lw_modi (As := [.int (b2i true)]) C hP hD hS hK hl.1 (hM9) (cwV 1 hts gL_law_X1_move rfl rfl rfl (by decide +kernel) ⟨Nat.le_of_ble_eq_true rfl, Nat.le_of_ble_eq_true rfl⟩) rfl dL_law_1641 (by omega) (by omega) (fun H locs hP hD hS => ?_)
  refine kt_i (y := 0) rfl ?_
  have hP : va_P D vwCl (WA h0 hn hd hq k0 kv ko ks km kt kp kb qo qd cZ cD cI cJ nb v ln go mw 3 mv io sz mk se pv pd go mw oL oD) H := hP
  have hD : va_D (fun q : Nat => s.heap.size ≤ q) (WA h0 hn hd hq k0 kv ko ks km kt kp kb qo qd cZ cD cI cJ nb v ln go mw 3 mv io sz mk se pv pd go mw oL oD) := hD
  refine lv_istore (lv' := [(7, .int 0), (6, .int (nI 3)), (5, .int (nI i)), (4, .ref qd), (3, .ref qo), (2, .ref k0), (1, .ref h0), (0, .ref b)]) hx hb dL_law_1644 hl (by decide) rfl (fun ls hl => ?_)
  refine lv_aload_n hx hb dL_law_1646 rfl (lv_at hl 5 rfl) ?_
  refine lw_thrown (R).2.1 C hP hK hl.1 dL_law_1647 (by omega) (by omega) ?_
  refine kt_i (y := nI 3) (rfl) ?_
  refine lv_iload hx hb dL_law_1650 (lv_at hl 1 rfl) ?_
  refine kn_icmp_eq (tgt := 1657) hx hb (by decide) (by decide) dL_law_1652 (by decide) (fun _ => ?_) (fun h => absurd h (by decide))
  refine lv_iload hx hb dL_law_1657 (lv_at hl 1 rfl) ?_
  refine kn_ne (tgt := 1674) hx hb (by decide) dL_law_1659 (by decide) (fun _ => ?_) (fun h => absurd h (by decide))
  refine lv_goto (tgt := 1745) hx hb dL_law_1674 (by decide) ?_
  refine W.widen (k := cells + 6) (n := slots + 40) (by omega) (by omega) ?_
  exact N R hP hD hS (lv_sub hl [2, 3, 4, 5, 6, 7] rfl)
set_option maxHeartbeats 4000000 in
set_option maxRecDepth 100000 in
theorem cs_move_shut {x1 : Int32} (hz : x1 = 0) (hgo : go = true) (hs1 : rp nb v (lp ln (0 * 2 + 0)) (144 + 0 * 3 + 0) 2 = false) (hs2 : rp nb v (lp ln (1 * 2 + 0)) (144 + 0 * 3 + 1) 1 = false) (h1 : xs (nI (i + 1)).toNatClampNeg = x1) (R : Rl nb v ln io mv sz mk se pv pd) (C : LwC l p s m meth c b L xs) (hL : L ≤ 2560) (hi : i + 4 < L) (hK : va_K D vwCl (TYL cZ cD cI cJ) s) (hP : va_P D vwCl (WA h0 hn hd hq k0 kv ko ks km kt kp kb qo qd cZ cD cI cJ nb v ln go mw th mv io sz mk se pv pd go mw oL oD) H) (hD : va_D (fun q : Nat => s.heap.size ≤ q) (WA h0 hn hd hq k0 kv ko ks km kt kp kb qo qd cZ cD cI cJ nb v ln go mw th mv io sz mk se pv pd go mw oL oD)) (hS : va_S (fun q : Nat => s.heap.size ≤ q) s.heap H locs) (hl : lv_has ls 9 [(5, .int (nI i)), (4, .ref qd), (3, .ref qo), (2, .ref k0), (1, .ref h0), (0, .ref b)]) (hcc : cells + 6 ≤ 3101) (hss : slots + 40 ≤ 21269) (N : LwN p l e s m below meth c b Q D h0 hn hd hq k0 kv ko ks km kt kp kb qo qd cZ cD cI cJ i (cells + 6) (slots + 40)) : W p l e room_1 s m #[Value.ref b] below meth c H locs cells slots Q (F0 m 1605 ls []) := by
  have C0 := C
  obtain ⟨hx, hb, hr, hml, hown, hts, hX, hbl, hlocks, hl0, hZ, hxS, hxD, hxN⟩ := C0
  have hbA : ¬ (fun q : Nat => s.heap.size ≤ q) b := Nat.not_le.mpr hbl
  have hcm : room_1.cells = 3101 := rfl
  have hsm : room_1.slots = 21269 := rfl
  have hT : tMs io mv sz mk se go = 0 := by rw [R.tMsE, if_neg (by rw [hgo]; decide), if_neg (by rw [hs1]; decide), if_neg (by rw [hs2]; decide)]
  refine lv_aload_n hx hb dL_law_1605 rfl (lv_at hl 4 rfl) ?_
  refine lv_aload_n hx hb dL_law_1606 rfl (lv_at hl 5 rfl) ?_
  refine lv_iload hx hb dL_law_1607 (lv_at hl 0 rfl) ?_
  refine lv_iconst (v := nI 1) hx hb dL_law_1609 (by decide) ?_
  refine kn_iadd hx hb dL_law_1610 ?_
  refine va_sld hx hb hX hbl hbA hS (sc_in (by omega) hL) dL_law_1611 ?_
  refine kt_i (y := x1) h1 ?_
  refine lv_if_eq (tgt := 1619) hx hb dL_law_1612 (by decide) (fun c_x => ?_) (fun h => absurd hz h)
  refine lv_iconst (v := nI 0) hx hb dL_law_1619 (by decide) ?_
  refine kt_i (y := b2i false) (by decide) ?_
  refine lv_aload_n hx hb dL_law_1620 rfl (lv_at hl 2 rfl) ?_
  refine lw_wrapL (As := [.ref h0, .int (b2i false), .ref qo]) C hP hD hS hK hl.1 (w_move_shut l D h0 hn hd hq qo cZ cD cI cJ nb v ln go mw oL R.1 hl0 H.size  hgo hs1 hs2) (vx_cwSW 3 hts gL_law_L_move rfl rfl rfl (by decide +kernel) ⟨Nat.le_of_ble_eq_true rfl, Nat.le_of_ble_eq_true rfl⟩) rfl dL_law_1621 (by omega) (by omega) (fun H locs hP hD hS => ?_)
  refine lv_istore (lv' := [(6, .int (nI 0)), (5, .int (nI i)), (4, .ref qd), (3, .ref qo), (2, .ref k0), (1, .ref h0), (0, .ref b)]) hx hb dL_law_1624 hl (by decide) rfl (fun ls hl => ?_)
  refine lv_aload_n hx hb dL_law_1626 rfl (lv_at hl 4 rfl) ?_
  refine lv_aload_n hx hb dL_law_1627 rfl (lv_at hl 6 rfl) ?_
  refine lv_iload hx hb dL_law_1628 (lv_at hl 1 rfl) ?_
  refine lv_iconst (v := nI 1) hx hb dL_law_1630 (by decide) ?_
  refine kn_iadd hx hb dL_law_1631 ?_
  refine va_sld hx hb hX hbl hbA hS (sc_in (by omega) hL) dL_law_1632 ?_
  refine kt_i (y := x1) h1 ?_
  refine lv_if_eq (tgt := 1640) hx hb dL_law_1633 (by decide) (fun c_x => ?_) (fun h => absurd hz h)
  refine lv_iconst (v := nI 0) hx hb dL_law_1640 (by decide) ?_
  refine kt_i (y := b2i false) (by decide) ?_
  have hM9 := c_X1_move_false l D k0 kv ko ks km kt kp kb cZ cD cI th mv io sz mk se pv pd go mw R.2.1 H.size  
  rw [hT] at hM9
  refine lw_modi (As := [.int (b2i false)]) C hP hD hS hK hl.1 (hM9) (cwV 1 hts gL_law_X1_move rfl rfl rfl (by decide +kernel) ⟨Nat.le_of_ble_eq_true rfl, Nat.le_of_ble_eq_true rfl⟩) rfl dL_law_1641 (by omega) (by omega) (fun H locs hP hD hS => ?_)
  refine kt_i (y := mw + 1) rfl ?_
  have hP : va_P D vwCl (WA h0 hn hd hq k0 kv ko ks km kt kp kb qo qd cZ cD cI cJ nb v ln false (mw + 1) 0 mv io sz mk se pv pd false (mw + 1) (up oL 0 (Int32.toInt64 (mw + 1))) oD) H := hP
  have hD : va_D (fun q : Nat => s.heap.size ≤ q) (WA h0 hn hd hq k0 kv ko ks km kt kp kb qo qd cZ cD cI cJ nb v ln false (mw + 1) 0 mv io sz mk se pv pd false (mw + 1) (up oL 0 (Int32.toInt64 (mw + 1))) oD) := hD
  refine lv_istore (lv' := [(7, .int (mw + 1)), (6, .int (nI 0)), (5, .int (nI i)), (4, .ref qd), (3, .ref qo), (2, .ref k0), (1, .ref h0), (0, .ref b)]) hx hb dL_law_1644 hl (by decide) rfl (fun ls hl => ?_)
  refine lv_aload_n hx hb dL_law_1646 rfl (lv_at hl 5 rfl) ?_
  refine lw_thrown (R).2.1 C hP hK hl.1 dL_law_1647 (by omega) (by omega) ?_
  refine kt_i (y := nI 0) (rfl) ?_
  refine lv_iload hx hb dL_law_1650 (lv_at hl 1 rfl) ?_
  refine kn_icmp_eq (tgt := 1657) hx hb (by decide) (by decide) dL_law_1652 (by decide) (fun _ => ?_) (fun h => absurd h (by decide))
  refine lv_iload hx hb dL_law_1657 (lv_at hl 1 rfl) ?_
  refine kn_ne (tgt := 1674) hx hb (by decide) dL_law_1659 (by decide) (fun h => absurd h (by decide)) (fun _ => ?_)
  refine lv_aload_n hx hb dL_law_1662 rfl (lv_at hl 4 rfl) ?_
  refine lv_iconst (v := nI 0) hx hb dL_law_1663 (by decide) ?_
  refine kn_lald hx hb hK hP 12 3 rfl rfl (by decide) (by decide) dL_law_1664 ?_
  refine lv_iload hx hb dL_law_1665 (lv_at hl 0 rfl) ?_
  refine lv_i2l hx hb dL_law_1667 rfl ?_
  refine W.lcmp hx hb dL_law_1668 ?_
  refine lv_if_eq (tgt := 1674) hx hb dL_law_1669 (by decide) (fun c_x => ?_) (fun h => absurd (lc_eq (up_s _ _ _)) h)
  refine lv_goto (tgt := 1745) hx hb dL_law_1674 (by decide) ?_
  refine W.widen (k := cells + 6) (n := slots + 40) (by omega) (by omega) ?_
  exact N R hP hD hS (lv_sub hl [2, 3, 4, 5, 6, 7] rfl)
set_option maxHeartbeats 4000000 in
set_option maxRecDepth 100000 in
theorem cs_move_already_false {x1 : Int32} (hz : x1 = 0) (hgo : go = false) (h1 : xs (nI (i + 1)).toNatClampNeg = x1) (R : Rl nb v ln io mv sz mk se pv pd) (C : LwC l p s m meth c b L xs) (hL : L ≤ 2560) (hi : i + 4 < L) (hK : va_K D vwCl (TYL cZ cD cI cJ) s) (hP : va_P D vwCl (WA h0 hn hd hq k0 kv ko ks km kt kp kb qo qd cZ cD cI cJ nb v ln go mw th mv io sz mk se pv pd go mw oL oD) H) (hD : va_D (fun q : Nat => s.heap.size ≤ q) (WA h0 hn hd hq k0 kv ko ks km kt kp kb qo qd cZ cD cI cJ nb v ln go mw th mv io sz mk se pv pd go mw oL oD)) (hS : va_S (fun q : Nat => s.heap.size ≤ q) s.heap H locs) (hl : lv_has ls 9 [(5, .int (nI i)), (4, .ref qd), (3, .ref qo), (2, .ref k0), (1, .ref h0), (0, .ref b)]) (hcc : cells + 6 ≤ 3101) (hss : slots + 40 ≤ 21269) (N : LwN p l e s m below meth c b Q D h0 hn hd hq k0 kv ko ks km kt kp kb qo qd cZ cD cI cJ i (cells + 6) (slots + 40)) : W p l e room_1 s m #[Value.ref b] below meth c H locs cells slots Q (F0 m 1605 ls []) := by
  have C0 := C
  obtain ⟨hx, hb, hr, hml, hown, hts, hX, hbl, hlocks, hl0, hZ, hxS, hxD, hxN⟩ := C0
  have hbA : ¬ (fun q : Nat => s.heap.size ≤ q) b := Nat.not_le.mpr hbl
  have hcm : room_1.cells = 3101 := rfl
  have hsm : room_1.slots = 21269 := rfl
  have hT : tMs io mv sz mk se go = 1 := by rw [R.tMsE, if_pos hgo]
  refine lv_aload_n hx hb dL_law_1605 rfl (lv_at hl 4 rfl) ?_
  refine lv_aload_n hx hb dL_law_1606 rfl (lv_at hl 5 rfl) ?_
  refine lv_iload hx hb dL_law_1607 (lv_at hl 0 rfl) ?_
  refine lv_iconst (v := nI 1) hx hb dL_law_1609 (by decide) ?_
  refine kn_iadd hx hb dL_law_1610 ?_
  refine va_sld hx hb hX hbl hbA hS (sc_in (by omega) hL) dL_law_1611 ?_
  refine kt_i (y := x1) h1 ?_
  refine lv_if_eq (tgt := 1619) hx hb dL_law_1612 (by decide) (fun c_x => ?_) (fun h => absurd hz h)
  refine lv_iconst (v := nI 0) hx hb dL_law_1619 (by decide) ?_
  refine kt_i (y := b2i false) (by decide) ?_
  refine lv_aload_n hx hb dL_law_1620 rfl (lv_at hl 2 rfl) ?_
  refine lw_wrapL (As := [.ref h0, .int (b2i false), .ref qo]) C hP hD hS hK hl.1 (w_move_already_false l D h0 hn hd hq qo cZ cD cI cJ nb v ln go mw oL R.1 hl0 H.size  hgo) (vx_cwSW 3 hts gL_law_L_move rfl rfl rfl (by decide +kernel) ⟨Nat.le_of_ble_eq_true rfl, Nat.le_of_ble_eq_true rfl⟩) rfl dL_law_1621 (by omega) (by omega) (fun H locs hP hD hS => ?_)
  refine lv_istore (lv' := [(6, .int (nI 1)), (5, .int (nI i)), (4, .ref qd), (3, .ref qo), (2, .ref k0), (1, .ref h0), (0, .ref b)]) hx hb dL_law_1624 hl (by decide) rfl (fun ls hl => ?_)
  refine lv_aload_n hx hb dL_law_1626 rfl (lv_at hl 4 rfl) ?_
  refine lv_aload_n hx hb dL_law_1627 rfl (lv_at hl 6 rfl) ?_
  refine lv_iload hx hb dL_law_1628 (lv_at hl 1 rfl) ?_
  refine lv_iconst (v := nI 1) hx hb dL_law_1630 (by decide) ?_
  refine kn_iadd hx hb dL_law_1631 ?_
  refine va_sld hx hb hX hbl hbA hS (sc_in (by omega) hL) dL_law_1632 ?_
  refine kt_i (y := x1) h1 ?_
  refine lv_if_eq (tgt := 1640) hx hb dL_law_1633 (by decide) (fun c_x => ?_) (fun h => absurd hz h)
  refine lv_iconst (v := nI 0) hx hb dL_law_1640 (by decide) ?_
  refine kt_i (y := b2i false) (by decide) ?_
  have hM9 := c_X1_move_false l D k0 kv ko ks km kt kp kb cZ cD cI th mv io sz mk se pv pd go mw R.2.1 H.size  
  rw [hT] at hM9
  refine lw_modi (As := [.int (b2i false)]) C hP hD hS hK hl.1 (hM9) (cwV 1 hts gL_law_X1_move rfl rfl rfl (by decide +kernel) ⟨Nat.le_of_ble_eq_true rfl, Nat.le_of_ble_eq_true rfl⟩) rfl dL_law_1641 (by omega) (by omega) (fun H locs hP hD hS => ?_)
  refine kt_i (y := 0) rfl ?_
  have hP : va_P D vwCl (WA h0 hn hd hq k0 kv ko ks km kt kp kb qo qd cZ cD cI cJ nb v ln go mw 1 mv io sz mk se pv pd go mw oL oD) H := hP
  have hD : va_D (fun q : Nat => s.heap.size ≤ q) (WA h0 hn hd hq k0 kv ko ks km kt kp kb qo qd cZ cD cI cJ nb v ln go mw 1 mv io sz mk se pv pd go mw oL oD) := hD
  refine lv_istore (lv' := [(7, .int 0), (6, .int (nI 1)), (5, .int (nI i)), (4, .ref qd), (3, .ref qo), (2, .ref k0), (1, .ref h0), (0, .ref b)]) hx hb dL_law_1644 hl (by decide) rfl (fun ls hl => ?_)
  refine lv_aload_n hx hb dL_law_1646 rfl (lv_at hl 5 rfl) ?_
  refine lw_thrown (R).2.1 C hP hK hl.1 dL_law_1647 (by omega) (by omega) ?_
  refine kt_i (y := nI 1) (rfl) ?_
  refine lv_iload hx hb dL_law_1650 (lv_at hl 1 rfl) ?_
  refine kn_icmp_eq (tgt := 1657) hx hb (by decide) (by decide) dL_law_1652 (by decide) (fun _ => ?_) (fun h => absurd h (by decide))
  refine lv_iload hx hb dL_law_1657 (lv_at hl 1 rfl) ?_
  refine kn_ne (tgt := 1674) hx hb (by decide) dL_law_1659 (by decide) (fun _ => ?_) (fun h => absurd h (by decide))
  refine lv_goto (tgt := 1745) hx hb dL_law_1674 (by decide) ?_
  refine W.widen (k := cells + 6) (n := slots + 40) (by omega) (by omega) ?_
  exact N R hP hD hS (lv_sub hl [2, 3, 4, 5, 6, 7] rfl)
set_option maxHeartbeats 4000000 in
set_option maxRecDepth 100000 in
theorem cs_move_x3 {x1 : Int32} (hz : x1 = 0) (hgo : go = true) (hs1 : rp nb v (lp ln (0 * 2 + 0)) (144 + 0 * 3 + 0) 2 = true) (h1 : xs (nI (i + 1)).toNatClampNeg = x1) (R : Rl nb v ln io mv sz mk se pv pd) (C : LwC l p s m meth c b L xs) (hL : L ≤ 2560) (hi : i + 4 < L) (hK : va_K D vwCl (TYL cZ cD cI cJ) s) (hP : va_P D vwCl (WA h0 hn hd hq k0 kv ko ks km kt kp kb qo qd cZ cD cI cJ nb v ln go mw th mv io sz mk se pv pd go mw oL oD) H) (hD : va_D (fun q : Nat => s.heap.size ≤ q) (WA h0 hn hd hq k0 kv ko ks km kt kp kb qo qd cZ cD cI cJ nb v ln go mw th mv io sz mk se pv pd go mw oL oD)) (hS : va_S (fun q : Nat => s.heap.size ≤ q) s.heap H locs) (hl : lv_has ls 9 [(5, .int (nI i)), (4, .ref qd), (3, .ref qo), (2, .ref k0), (1, .ref h0), (0, .ref b)]) (hcc : cells + 6 ≤ 3101) (hss : slots + 40 ≤ 21269) (N : LwN p l e s m below meth c b Q D h0 hn hd hq k0 kv ko ks km kt kp kb qo qd cZ cD cI cJ i (cells + 6) (slots + 40)) : W p l e room_1 s m #[Value.ref b] below meth c H locs cells slots Q (F0 m 1605 ls []) := by
  have C0 := C
  obtain ⟨hx, hb, hr, hml, hown, hts, hX, hbl, hlocks, hl0, hZ, hxS, hxD, hxN⟩ := C0
  have hbA : ¬ (fun q : Nat => s.heap.size ≤ q) b := Nat.not_le.mpr hbl
  have hcm : room_1.cells = 3101 := rfl
  have hsm : room_1.slots = 21269 := rfl
  have hT : tMs io mv sz mk se go = 2 := by rw [R.tMsE, if_neg (by rw [hgo]; decide), if_pos hs1]
  refine lv_aload_n hx hb dL_law_1605 rfl (lv_at hl 4 rfl) ?_
  refine lv_aload_n hx hb dL_law_1606 rfl (lv_at hl 5 rfl) ?_
  refine lv_iload hx hb dL_law_1607 (lv_at hl 0 rfl) ?_
  refine lv_iconst (v := nI 1) hx hb dL_law_1609 (by decide) ?_
  refine kn_iadd hx hb dL_law_1610 ?_
  refine va_sld hx hb hX hbl hbA hS (sc_in (by omega) hL) dL_law_1611 ?_
  refine kt_i (y := x1) h1 ?_
  refine lv_if_eq (tgt := 1619) hx hb dL_law_1612 (by decide) (fun c_x => ?_) (fun h => absurd hz h)
  refine lv_iconst (v := nI 0) hx hb dL_law_1619 (by decide) ?_
  refine kt_i (y := b2i false) (by decide) ?_
  refine lv_aload_n hx hb dL_law_1620 rfl (lv_at hl 2 rfl) ?_
  refine lw_wrapL (As := [.ref h0, .int (b2i false), .ref qo]) C hP hD hS hK hl.1 (w_move_x3 l D h0 hn hd hq qo cZ cD cI cJ nb v ln go mw oL R.1 hl0 H.size  hgo hs1) (vx_cwSW 3 hts gL_law_L_move rfl rfl rfl (by decide +kernel) ⟨Nat.le_of_ble_eq_true rfl, Nat.le_of_ble_eq_true rfl⟩) rfl dL_law_1621 (by omega) (by omega) (fun H locs hP hD hS => ?_)
  refine lv_istore (lv' := [(6, .int (nI 2)), (5, .int (nI i)), (4, .ref qd), (3, .ref qo), (2, .ref k0), (1, .ref h0), (0, .ref b)]) hx hb dL_law_1624 hl (by decide) rfl (fun ls hl => ?_)
  refine lv_aload_n hx hb dL_law_1626 rfl (lv_at hl 4 rfl) ?_
  refine lv_aload_n hx hb dL_law_1627 rfl (lv_at hl 6 rfl) ?_
  refine lv_iload hx hb dL_law_1628 (lv_at hl 1 rfl) ?_
  refine lv_iconst (v := nI 1) hx hb dL_law_1630 (by decide) ?_
  refine kn_iadd hx hb dL_law_1631 ?_
  refine va_sld hx hb hX hbl hbA hS (sc_in (by omega) hL) dL_law_1632 ?_
  refine kt_i (y := x1) h1 ?_
  refine lv_if_eq (tgt := 1640) hx hb dL_law_1633 (by decide) (fun c_x => ?_) (fun h => absurd hz h)
  refine lv_iconst (v := nI 0) hx hb dL_law_1640 (by decide) ?_
  refine kt_i (y := b2i false) (by decide) ?_
  have hM9 := c_X1_move_false l D k0 kv ko ks km kt kp kb cZ cD cI th mv io sz mk se pv pd go mw R.2.1 H.size  
  rw [hT] at hM9
  refine lw_modi (As := [.int (b2i false)]) C hP hD hS hK hl.1 (hM9) (cwV 1 hts gL_law_X1_move rfl rfl rfl (by decide +kernel) ⟨Nat.le_of_ble_eq_true rfl, Nat.le_of_ble_eq_true rfl⟩) rfl dL_law_1641 (by omega) (by omega) (fun H locs hP hD hS => ?_)
  refine kt_i (y := 0) rfl ?_
  have hP : va_P D vwCl (WA h0 hn hd hq k0 kv ko ks km kt kp kb qo qd cZ cD cI cJ nb v ln go mw 2 mv io sz mk se pv pd go mw oL oD) H := hP
  have hD : va_D (fun q : Nat => s.heap.size ≤ q) (WA h0 hn hd hq k0 kv ko ks km kt kp kb qo qd cZ cD cI cJ nb v ln go mw 2 mv io sz mk se pv pd go mw oL oD) := hD
  refine lv_istore (lv' := [(7, .int 0), (6, .int (nI 2)), (5, .int (nI i)), (4, .ref qd), (3, .ref qo), (2, .ref k0), (1, .ref h0), (0, .ref b)]) hx hb dL_law_1644 hl (by decide) rfl (fun ls hl => ?_)
  refine lv_aload_n hx hb dL_law_1646 rfl (lv_at hl 5 rfl) ?_
  refine lw_thrown (R).2.1 C hP hK hl.1 dL_law_1647 (by omega) (by omega) ?_
  refine kt_i (y := nI 2) (rfl) ?_
  refine lv_iload hx hb dL_law_1650 (lv_at hl 1 rfl) ?_
  refine kn_icmp_eq (tgt := 1657) hx hb (by decide) (by decide) dL_law_1652 (by decide) (fun _ => ?_) (fun h => absurd h (by decide))
  refine lv_iload hx hb dL_law_1657 (lv_at hl 1 rfl) ?_
  refine kn_ne (tgt := 1674) hx hb (by decide) dL_law_1659 (by decide) (fun _ => ?_) (fun h => absurd h (by decide))
  refine lv_goto (tgt := 1745) hx hb dL_law_1674 (by decide) ?_
  refine W.widen (k := cells + 6) (n := slots + 40) (by omega) (by omega) ?_
  exact N R hP hD hS (lv_sub hl [2, 3, 4, 5, 6, 7] rfl)
set_option maxHeartbeats 4000000 in
set_option maxRecDepth 100000 in
theorem cs_move_x4 {x1 : Int32} (hz : x1 = 0) (hgo : go = true) (hs1 : rp nb v (lp ln (0 * 2 + 0)) (144 + 0 * 3 + 0) 2 = false) (hs2 : rp nb v (lp ln (1 * 2 + 0)) (144 + 0 * 3 + 1) 1 = true) (h1 : xs (nI (i + 1)).toNatClampNeg = x1) (R : Rl nb v ln io mv sz mk se pv pd) (C : LwC l p s m meth c b L xs) (hL : L ≤ 2560) (hi : i + 4 < L) (hK : va_K D vwCl (TYL cZ cD cI cJ) s) (hP : va_P D vwCl (WA h0 hn hd hq k0 kv ko ks km kt kp kb qo qd cZ cD cI cJ nb v ln go mw th mv io sz mk se pv pd go mw oL oD) H) (hD : va_D (fun q : Nat => s.heap.size ≤ q) (WA h0 hn hd hq k0 kv ko ks km kt kp kb qo qd cZ cD cI cJ nb v ln go mw th mv io sz mk se pv pd go mw oL oD)) (hS : va_S (fun q : Nat => s.heap.size ≤ q) s.heap H locs) (hl : lv_has ls 9 [(5, .int (nI i)), (4, .ref qd), (3, .ref qo), (2, .ref k0), (1, .ref h0), (0, .ref b)]) (hcc : cells + 6 ≤ 3101) (hss : slots + 40 ≤ 21269) (N : LwN p l e s m below meth c b Q D h0 hn hd hq k0 kv ko ks km kt kp kb qo qd cZ cD cI cJ i (cells + 6) (slots + 40)) : W p l e room_1 s m #[Value.ref b] below meth c H locs cells slots Q (F0 m 1605 ls []) := by
  have C0 := C
  obtain ⟨hx, hb, hr, hml, hown, hts, hX, hbl, hlocks, hl0, hZ, hxS, hxD, hxN⟩ := C0
  have hbA : ¬ (fun q : Nat => s.heap.size ≤ q) b := Nat.not_le.mpr hbl
  have hcm : room_1.cells = 3101 := rfl
  have hsm : room_1.slots = 21269 := rfl
  have hT : tMs io mv sz mk se go = 3 := by rw [R.tMsE, if_neg (by rw [hgo]; decide), if_neg (by rw [hs1]; decide), if_pos hs2]
  refine lv_aload_n hx hb dL_law_1605 rfl (lv_at hl 4 rfl) ?_
  refine lv_aload_n hx hb dL_law_1606 rfl (lv_at hl 5 rfl) ?_
  refine lv_iload hx hb dL_law_1607 (lv_at hl 0 rfl) ?_
  refine lv_iconst (v := nI 1) hx hb dL_law_1609 (by decide) ?_
  refine kn_iadd hx hb dL_law_1610 ?_
  refine va_sld hx hb hX hbl hbA hS (sc_in (by omega) hL) dL_law_1611 ?_
  refine kt_i (y := x1) h1 ?_
  refine lv_if_eq (tgt := 1619) hx hb dL_law_1612 (by decide) (fun c_x => ?_) (fun h => absurd hz h)
  refine lv_iconst (v := nI 0) hx hb dL_law_1619 (by decide) ?_
  refine kt_i (y := b2i false) (by decide) ?_
  refine lv_aload_n hx hb dL_law_1620 rfl (lv_at hl 2 rfl) ?_
  refine lw_wrapL (As := [.ref h0, .int (b2i false), .ref qo]) C hP hD hS hK hl.1 (w_move_x4 l D h0 hn hd hq qo cZ cD cI cJ nb v ln go mw oL R.1 hl0 H.size  hgo hs1 hs2) (vx_cwSW 3 hts gL_law_L_move rfl rfl rfl (by decide +kernel) ⟨Nat.le_of_ble_eq_true rfl, Nat.le_of_ble_eq_true rfl⟩) rfl dL_law_1621 (by omega) (by omega) (fun H locs hP hD hS => ?_)
  refine lv_istore (lv' := [(6, .int (nI 3)), (5, .int (nI i)), (4, .ref qd), (3, .ref qo), (2, .ref k0), (1, .ref h0), (0, .ref b)]) hx hb dL_law_1624 hl (by decide) rfl (fun ls hl => ?_)
  refine lv_aload_n hx hb dL_law_1626 rfl (lv_at hl 4 rfl) ?_
  refine lv_aload_n hx hb dL_law_1627 rfl (lv_at hl 6 rfl) ?_
  refine lv_iload hx hb dL_law_1628 (lv_at hl 1 rfl) ?_
  refine lv_iconst (v := nI 1) hx hb dL_law_1630 (by decide) ?_
  refine kn_iadd hx hb dL_law_1631 ?_
  refine va_sld hx hb hX hbl hbA hS (sc_in (by omega) hL) dL_law_1632 ?_
  refine kt_i (y := x1) h1 ?_
  refine lv_if_eq (tgt := 1640) hx hb dL_law_1633 (by decide) (fun c_x => ?_) (fun h => absurd hz h)
  refine lv_iconst (v := nI 0) hx hb dL_law_1640 (by decide) ?_
  refine kt_i (y := b2i false) (by decide) ?_
  have hM9 := c_X1_move_false l D k0 kv ko ks km kt kp kb cZ cD cI th mv io sz mk se pv pd go mw R.2.1 H.size  
  rw [hT] at hM9
  refine lw_modi (As := [.int (b2i false)]) C hP hD hS hK hl.1 (hM9) (cwV 1 hts gL_law_X1_move rfl rfl rfl (by decide +kernel) ⟨Nat.le_of_ble_eq_true rfl, Nat.le_of_ble_eq_true rfl⟩) rfl dL_law_1641 (by omega) (by omega) (fun H locs hP hD hS => ?_)
  refine kt_i (y := 0) rfl ?_
  have hP : va_P D vwCl (WA h0 hn hd hq k0 kv ko ks km kt kp kb qo qd cZ cD cI cJ nb v ln go mw 3 mv io sz mk se pv pd go mw oL oD) H := hP
  have hD : va_D (fun q : Nat => s.heap.size ≤ q) (WA h0 hn hd hq k0 kv ko ks km kt kp kb qo qd cZ cD cI cJ nb v ln go mw 3 mv io sz mk se pv pd go mw oL oD) := hD
  refine lv_istore (lv' := [(7, .int 0), (6, .int (nI 3)), (5, .int (nI i)), (4, .ref qd), (3, .ref qo), (2, .ref k0), (1, .ref h0), (0, .ref b)]) hx hb dL_law_1644 hl (by decide) rfl (fun ls hl => ?_)
  refine lv_aload_n hx hb dL_law_1646 rfl (lv_at hl 5 rfl) ?_
  refine lw_thrown (R).2.1 C hP hK hl.1 dL_law_1647 (by omega) (by omega) ?_
  refine kt_i (y := nI 3) (rfl) ?_
  refine lv_iload hx hb dL_law_1650 (lv_at hl 1 rfl) ?_
  refine kn_icmp_eq (tgt := 1657) hx hb (by decide) (by decide) dL_law_1652 (by decide) (fun _ => ?_) (fun h => absurd h (by decide))
  refine lv_iload hx hb dL_law_1657 (lv_at hl 1 rfl) ?_
  refine kn_ne (tgt := 1674) hx hb (by decide) dL_law_1659 (by decide) (fun _ => ?_) (fun h => absurd h (by decide))
  refine lv_goto (tgt := 1745) hx hb dL_law_1674 (by decide) ?_
  refine W.widen (k := cells + 6) (n := slots + 40) (by omega) (by omega) ?_
  exact N R hP hD hS (lv_sub hl [2, 3, 4, 5, 6, 7] rfl)
end CS
