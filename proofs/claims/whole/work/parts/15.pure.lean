/-! The board and the reference, held against each other: pure facts. -/
theorem pow_split {q r e : Int} (h1 : e ≤ r) (h2 : r ≤ q) : 2 ^ (q - e).toNat = 2 ^ (q - r).toNat * 2 ^ (r - e).toNat := by
  rw [← Nat.pow_add]; congr 1; omega
theorem units_same {c c' : Nat} {q q' e : Int} (h1 : e ≤ q) (h2 : e ≤ q') (hv : c * 2 ^ (q - q').toNat = c' * 1 * 2 ^ (q' - q).toNat) : FP.Core.inUnits c' q' e = FP.Core.inUnits c q e := by
  unfold FP.Core.inUnits
  rcases Int.le_total q' q with h | h
  · have e0 : (q' - q).toNat = 0 := by omega
    rw [e0, Nat.pow_zero, Nat.mul_one, Nat.mul_one] at hv
    rw [← hv, pow_split h2 h, Nat.mul_assoc]
  · have e0 : (q - q').toNat = 0 := by omega
    rw [e0, Nat.pow_zero, Nat.mul_one, Nat.mul_one] at hv
    rw [hv, pow_split h1 h, Nat.mul_assoc]
theorem signed_scale (s : Bool) (c k : Nat) : FP.Core.signed s (c * k) = FP.Core.signed s c * (k : Int) := FP.Core.signed_mul s c k
theorem f2d_val {a : UInt32} {s : Bool} {c : Nat} {q : Int} (h : FP.Core.val32 a = .fin s c q) : ∃ c' q', FP.Core.val64 (FP.Core.f2d a) = .fin s c' q' ∧ FP.Core.zval FP.Core.b64 (FP.Core.val64 (FP.Core.f2d a)) = FP.Core.zval FP.Core.b32 (FP.Core.val32 a) * ((2 ^ (FP.Core.b32.qmin - FP.Core.b64.qmin).toNat : Nat) : Int) := by
  have hf := FP.Core.val32_fits a
  rw [h] at hf
  obtain ⟨c', q', hfit, -, hv⟩ := FP.Core.within_fit FP.Core.good_b64 FP.Core.within_32_64 hf
  have hr : FP.Core.val64 (FP.Core.f2d a) = .fin s c' q' := by
    rw [FP.Core.val64_f2d, h]
    exact FP.Core.roundRatio_exact FP.Core.good_b64 (by decide) hfit hv
  refine ⟨c', q', hr, ?_⟩
  rw [hr, h]
  show FP.Core.signed s (FP.Core.inUnits c' q' FP.Core.b64.qmin) = FP.Core.signed s (FP.Core.inUnits c q FP.Core.b32.qmin) * _
  have hq : FP.Core.b64.qmin ≤ FP.Core.b32.qmin := by decide +kernel
  rw [units_same (Int.le_trans hq hf.2.1) hfit.2.1 hv, FP.Core.inUnits_move c hq hf.2.1, signed_scale]
theorem cmp_scale (x y : Int) {k : Nat} (hk : 0 < k) : compare (x * (k : Int)) (y * (k : Int)) = compare x y := by
  have hk' : (0 : Int) < (k : Int) := by omega
  rw [FP.Core.compare_ite, FP.Core.compare_ite]
  have h1 : x * (k : Int) < y * (k : Int) ↔ x < y := Int.mul_lt_mul_right hk'
  have h2 : x * (k : Int) = y * (k : Int) ↔ x = y := ⟨fun h => Int.eq_of_mul_eq_mul_right (by omega) h, fun h => by rw [h]⟩
  simp only [h1, h2]
theorem f2d_cmp {a b : UInt32} (ha : FP.Core.val32 a ≠ .nan) {s : Bool} {c : Nat} {q : Int} (hb : FP.Core.val32 b = .fin s c q) : FP.Core.dcmp (FP.Core.f2d a) (FP.Core.f2d b) = FP.Core.fcmp a b := by
  obtain ⟨c', q', h1, h2⟩ := f2d_val hb
  cases h : FP.Core.val32 a with
  | nan => exact absurd h ha
  | inf u =>
    have h3 : FP.Core.val64 (FP.Core.f2d a) = .inf u := by rw [FP.Core.val64_f2d, h]; rfl
    show FP.Core.order (FP.Core.val64 (FP.Core.f2d a)) (FP.Core.val64 (FP.Core.f2d b)) = FP.Core.order (FP.Core.val32 a) (FP.Core.val32 b)
    rw [h3, h1, h, hb]; rfl
  | fin u d r =>
    obtain ⟨d', r', h3, h4⟩ := f2d_val h
    rw [FP.Core.dcmp_zval (by rw [h3]; exact fun q => by cases q) (by rw [h1]; exact fun q => by cases q), FP.Core.fcmp_zval ha (by rw [hb]; exact fun q => by cases q), h2, h4, cmp_scale _ _ (Nat.two_pow_pos _)]
theorem val_f0 : FP.Core.val32 FP.fconst0 = .fin false 0 FP.Core.b32.qmin := by decide +kernel
theorem val_f200 : ∃ c q, FP.Core.val32 1128792064 = .fin false c q := ⟨13107200, -16, by decide +kernel⟩
theorem f2d_f0 : FP.Core.f2d FP.fconst0 = FP.dconst0 := by decide +kernel
theorem f2d_f200 : FP.Core.f2d 1128792064 = 4641240890982006784 := by decide +kernel
theorem wnd_wnM {x : UInt32} (h : FP.fIsNaN x = false) : wnM (FP.f2d x) = wnd x := by
  have hn : FP.Core.val32 x ≠ .nan := (FP.Core.notNaN_iff32 x).mp h
  obtain ⟨c, q, h2⟩ := val_f200
  unfold wnM wnd
  rw [FP.f2d_core h]
  rw [show FP.dcmp (FP.Core.f2d x) FP.dconst0 = FP.fcmp x FP.fconst0 from by rw [← f2d_f0]; exact f2d_cmp hn val_f0, show FP.dcmp (FP.Core.f2d x) 4641240890982006784 = FP.fcmp x 1128792064 from by rw [← f2d_f200]; exact f2d_cmp hn h2]
/-- the law's own products are numbers -/
theorem fin_eighth : FP.Core.DFin 4593671619917905920 := by rw [FP.Core.fin_bits]; decide +kernel
theorem fin_eighth32 : FP.Core.FFin 1040187392 := by rw [FP.Core.fin_bits32]; decide +kernel
theorem mul_num (x : Int32) : FP.dIsNaN (FP.dmul (FP.i2d x) 4593671619917905920) = false := FP.Core.dmul_out (FP.Core.i2d_fin x) fin_eighth
theorem mul_num32 (x : Int32) : FP.fIsNaN (FP.fmul (FP.i2f x) 1040187392) = false := FP.Core.fmul_out (FP.Core.i2f_fin x) fin_eighth32
/-! ## the relation -/
def num (x : UInt64) : Prop := FP.dIsNaN x = false
def live (ln : Nat → Nat) (q : Nat) : Prop := ∃ t i, t < 12 ∧ i < ln t ∧ q = t * 12 + i
def Rl (nb : Nat → Bool) (v : Nat → UInt64) (ln : Nat → Nat) (io : Nat → Bool) (mv : Nat → UInt64) (sz : Nat → Nat) (mk : Nat → UInt64) (se : Nat → Bool) (pv : Nat → UInt64) (pd : Nat → Bool) : Prop :=
  (∀ j, ln j ≤ 12) ∧ (∀ j, sz j ≤ 12) ∧ (∀ t, t < 12 → sz t = ln t) ∧
  (∀ q, live ln q → io q = !nb q ∧ (nb q = true → mv q = v q ∧ num (v q))) ∧
  (∀ q, q < 18 → se q = nb (144 + q) ∧ (nb (144 + q) = true → mk q = v (144 + q) ∧ num (v (144 + q)))) ∧
  (∀ w, w < 2 → pd w = nb (162 + w) ∧ (nb (162 + w) = true → pv w = v (162 + w) ∧ num (v (162 + w)))) ∧ nb 164 = false
/-- a way, by what the two are -/
def wv (a b : Bool) (o : Option Ordering) : Nat := if a && b then (match o with | some .lt => 1 | some .gt => 4 | _ => 2) else 8
theorem wy_char {a b : Bool} {x y x' y' : UInt64} (h1 : a = true → x = x' ∧ num x') (h2 : b = true → y = y' ∧ num y') : wy (!a || !b) x y = wv a b (FP.dcmp x' y') := by
  cases a <;> cases b
  · rfl
  · rfl
  · rfl
  · obtain ⟨rfl, -⟩ := h1 rfl
    obtain ⟨rfl, -⟩ := h2 rfl
    cases hc : FP.dcmp x y with
    | none => simp [wy, wv, hc, oLt, oGt]
    | some o => cases o <;> simp [wy, wv, hc, oLt, oGt]
theorem num_cmp {x y : UInt64} (hx : num x) (hy : num y) : ∃ o, FP.dcmp x y = some o := FP.Core.dcmp_of_notNaN hx hy
theorem isW_wv {a b : Bool} {k : Nat} (hk : k < 6) {o : Option Ordering} (ho : a = true → b = true → ∃ u, o = some u) : isW k (wv a b o) = rl a b k o := by
  have h6 : k = 0 ∨ k = 1 ∨ k = 2 ∨ k = 3 ∨ k = 4 ∨ k = 5 := by omega
  cases a <;> cases b
  · rcases h6 with rfl | rfl | rfl | rfl | rfl | rfl <;> simp [isW, wv, rl, wn]
  · rcases h6 with rfl | rfl | rfl | rfl | rfl | rfl <;> simp [isW, wv, rl, wn]
  · rcases h6 with rfl | rfl | rfl | rfl | rfl | rfl <;> simp [isW, wv, rl, wn]
  · obtain ⟨u, rfl⟩ := ho rfl rfl
    cases u <;> rcases h6 with rfl | rfl | rfl | rfl | rfl | rfl <;> decide
theorem wv_1 {a b : Bool} {o : Option Ordering} : wv a b o = 1 ↔ rl a b 0 o = true := by
  cases a <;> cases b <;> (cases o with | none => decide | some u => cases u <;> decide)
theorem wv_4 {a b : Bool} {o : Option Ordering} : wv a b o = 4 ↔ rl a b 2 o = true := by
  cases a <;> cases b <;> (cases o with | none => decide | some u => cases u <;> decide)
theorem wv_2 {a b : Bool} {o : Option Ordering} (ho : a = true → b = true → ∃ u, o = some u) : wv a b o = 2 ↔ rl a b 4 o = true := by
  cases o with
  | some u => cases a <;> cases b <;> cases u <;> decide
  | none =>
    cases a <;> cases b
    · decide
    · decide
    · decide
    · obtain ⟨u, h⟩ := ho rfl rfl
      cases h
theorem wv_lt4 {a b : Bool} {o : Option Ordering} (ho : a = true → b = true → ∃ u, o = some u) : wv a b o < 4 ↔ rl a b 1 o = true := by
  cases o with
  | some u => cases a <;> cases b <;> cases u <;> decide
  | none =>
    cases a <;> cases b
    · decide
    · decide
    · decide
    · obtain ⟨u, h⟩ := ho rfl rfl
      cases h
theorem wv_lt8 {a b : Bool} {o : Option Ordering} : wv a b o < 8 ↔ a = true ∧ b = true := by
  cases a <;> cases b <;> (cases o with | none => decide | some u => cases u <;> decide)
section RL
variable {nb : Nat → Bool} {v : Nat → UInt64} {ln : Nat → Nat} {io : Nat → Bool} {mv : Nat → UInt64} {sz : Nat → Nat} {mk : Nat → UInt64} {se : Nat → Bool} {pv : Nat → UInt64} {pd : Nat → Bool}
/-- the latest, in both -/
theorem Rl.latest (R : Rl nb v ln io mv sz mk se pv pd) {t : Nat} (ht : t < 12) : lo io sz t = !nb (lp ln t) ∧ (nb (lp ln t) = true → lw mv sz t = v (lp ln t) ∧ num (v (lp ln t))) := by
  obtain ⟨h1, h2, h3, h4, h5, h6, h7⟩ := R
  have e := h3 t ht
  by_cases h0 : ln t = 0
  · rw [lp_0 h0]
    refine ⟨by simp [lo, e, h0, h7], fun q => by rw [h7] at q; cases q⟩
  · have hl : live ln (lp ln t) := ⟨t, ln t - 1, ht, by omega, lp_1 h0⟩
    have e2 : 12 * t + sz t - 1 = lp ln t := by rw [lp_1 h0, e]; omega
    have h0' : ¬ sz t = 0 := by rw [e]; exact h0
    obtain ⟨g1, g2⟩ := h4 _ hl
    refine ⟨?_, fun q => ?_⟩
    · unfold lo; rw [if_neg h0', e2, g1]
    · unfold lw; rw [if_neg h0', e2]; exact g2 q
theorem Rl.mark (R : Rl nb v ln io mv sz mk se pv pd) {q : Nat} (hq : q < 18) : se q = nb (144 + q) ∧ (nb (144 + q) = true → mk q = v (144 + q) ∧ num (v (144 + q))) := R.2.2.2.2.1 q hq
theorem Rl.probe (R : Rl nb v ln io mv sz mk se pv pd) {w : Nat} (hw : w < 2) : pd w = nb (162 + w) ∧ (nb (162 + w) = true → pv w = v (162 + w) ∧ num (v (162 + w))) := R.2.2.2.2.2.1 w hw
theorem Rl.strip (R : Rl nb v ln io mv sz mk se pv pd) {t i : Nat} (ht : t < 12) (hi : i < ln t) : io (t * 12 + i) = !nb (t * 12 + i) ∧ (nb (t * 12 + i) = true → mv (t * 12 + i) = v (t * 12 + i) ∧ num (v (t * 12 + i))) := R.2.2.2.1 _ ⟨t, i, ht, hi, rfl⟩
theorem both {a b : Bool} {x y : UInt64} (h1 : a = true → num x) (h2 : b = true → num y) : a = true → b = true → ∃ u, FP.dcmp x y = some u := fun p q => num_cmp (h1 p) (h2 q)
/-- the latest of two, by a relation -/
theorem Rl.lat2 (R : Rl nb v ln io mv sz mk se pv pd) {t u : Nat} (ht : t < 12) (hu : u < 12) : wy (lo io sz t || lo io sz u) (lw mv sz t) (lw mv sz u) = wv (nb (lp ln t)) (nb (lp ln u)) (FP.dcmp (v (lp ln t)) (v (lp ln u))) ∧ (nb (lp ln t) = true → nb (lp ln u) = true → ∃ o, FP.dcmp (v (lp ln t)) (v (lp ln u)) = some o) := by
  obtain ⟨a1, a2⟩ := R.latest ht
  obtain ⟨b1, b2⟩ := R.latest hu
  exact ⟨by rw [a1, b1]; exact wy_char a2 b2, both (fun q => (a2 q).2) (fun q => (b2 q).2)⟩
theorem Rl.latM (R : Rl nb v ln io mv sz mk se pv pd) {t q : Nat} (ht : t < 12) (hq : q < 18) : wy (lo io sz t || !se q) (lw mv sz t) (mk q) = wv (nb (lp ln t)) (nb (144 + q)) (FP.dcmp (v (lp ln t)) (v (144 + q))) ∧ (nb (lp ln t) = true → nb (144 + q) = true → ∃ o, FP.dcmp (v (lp ln t)) (v (144 + q)) = some o) := by
  obtain ⟨a1, a2⟩ := R.latest ht
  obtain ⟨b1, b2⟩ := R.mark hq
  exact ⟨by rw [a1, b1]; exact wy_char a2 b2, both (fun q => (a2 q).2) (fun q => (b2 q).2)⟩
theorem Rl.latP (R : Rl nb v ln io mv sz mk se pv pd) {t w : Nat} (ht : t < 12) (hw : w < 2) : wy (lo io sz t || !pd w) (lw mv sz t) (pv w) = wv (nb (lp ln t)) (nb (162 + w)) (FP.dcmp (v (lp ln t)) (v (162 + w))) ∧ (nb (lp ln t) = true → nb (162 + w) = true → ∃ o, FP.dcmp (v (lp ln t)) (v (162 + w)) = some o) := by
  obtain ⟨a1, a2⟩ := R.latest ht
  obtain ⟨b1, b2⟩ := R.probe hw
  exact ⟨by rw [a1, b1]; exact wy_char a2 b2, both (fun q => (a2 q).2) (fun q => (b2 q).2)⟩
theorem Rl.strP (R : Rl nb v ln io mv sz mk se pv pd) {t i w : Nat} (ht : t < 12) (hi : i < ln t) (hw : w < 2) : wy (io (t * 12 + i) || !pd w) (mv (t * 12 + i)) (pv w) = wv (nb (t * 12 + i)) (nb (162 + w)) (FP.dcmp (v (t * 12 + i)) (v (162 + w))) ∧ (nb (t * 12 + i) = true → nb (162 + w) = true → ∃ o, FP.dcmp (v (t * 12 + i)) (v (162 + w)) = some o) := by
  obtain ⟨a1, a2⟩ := R.strip ht hi
  obtain ⟨b1, b2⟩ := R.probe hw
  exact ⟨by rw [a1, b1]; exact wy_char a2 b2, both (fun q => (a2 q).2) (fun q => (b2 q).2)⟩
theorem cn_cong {P Q : Nat → Bool} : ∀ {n : Nat}, (∀ i, i < n → P i = Q i) → cn P n = cn Q n
  | 0, _ => rfl
  | n + 1, h => by unfold cn; rw [cn_cong (fun i hi => h i (by omega)), h n (by omega)]
theorem tk_cong {P Q : Nat → Bool} : ∀ {k i n : Nat}, i + k = n → (∀ j, j < n → P j = Q j) → tk P k i = tk Q k i
  | 0, _, _, _, _ => rfl
  | k + 1, i, n, e, h => by unfold tk; rw [h i (by omega), tk_cong (k := k) (i := i + 1) (n := n) (by omega) h]
theorem tk_snoc (P : Nat → Bool) : ∀ k i, tk P (k + 1) i = if tk P k i = i + k then (if P (i + k) = true then i + k + 1 else i + k) else tk P k i
  | 0, i => by
    simp only [tk]
    by_cases h : P i = true
    · simp [h]
    · simp [h]
  | k + 1, i => by
    rw [tk]
    by_cases h : P i = true
    · rw [if_pos h, tk_snoc P k (i + 1), show tk P (k + 1) i = tk P k (i + 1) from tk_t h, show i + 1 + k = i + (k + 1) by omega]
    · have h2 : P i = false := bnf h
      rw [if_neg h, tk_f h2, if_neg (by omega)]
theorem nq_tk (P : Nat → Bool) : ∀ n, nq P n = tk P n 0 ∧ (gq P n = true ↔ tk P n 0 = n)
  | 0 => ⟨rfl, by simp [gq, tk]⟩
  | n + 1 => by
    obtain ⟨h1, h2⟩ := nq_tk P n
    have h3 := tk_snoc P n 0
    rw [Nat.zero_add] at h3
    have h4 := tk_le P n 0
    cases hg : gq P n with
    | false =>
      have h5 : ¬ tk P n 0 = n := fun q => by rw [h2.mpr q] at hg; cases hg
      rw [if_neg h5] at h3
      obtain ⟨g1, g2⟩ := gq_f hg
      refine ⟨by rw [g2, h1, h3], ?_⟩
      rw [g1, h3]
      exact ⟨fun q => (by cases q), fun q => (by omega)⟩
    | true =>
      have h5 := h2.mp hg
      rw [if_pos h5] at h3
      cases hp : P n with
      | true =>
        obtain ⟨g1, g2⟩ := gq_tt hg hp
        rw [if_pos hp] at h3
        exact ⟨by rw [g2, h1, h3, h5], by rw [g1, h3]; simp⟩
      | false =>
        obtain ⟨g1, g2⟩ := gq_tf hg hp
        rw [if_neg (by rw [hp]; decide)] at h3
        refine ⟨by rw [g2, h1, h3, h5], ?_⟩
        rw [g1, h3]
        exact ⟨fun q => (by cases q), fun q => (by omega)⟩
end RL
