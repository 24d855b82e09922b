/-! The board and the reference answer alike, where they stand alike. -/
section SAME
variable {nb : Nat → Bool} {v : Nat → UInt64} {ln : Nat → Nat} {io : Nat → Bool} {mv : Nat → UInt64} {sz : Nat → Nat} {mk : Nat → UInt64} {se : Nat → Bool} {pv : Nat → UInt64} {pd : Nat → Bool}
theorem Rl.size (R : Rl nb v ln io mv sz mk se pv pd) {t : Nat} (ht : t < 12) : sz t = ln t := R.2.2.1 t ht
theorem Rl.size2 (R : Rl nb v ln io mv sz mk se pv pd) {g w : Nat} (hg : g < 6) (hw : w < 2) : sz (2 * g + w) = ln (g * 2 + w) := by
  rw [show 2 * g + w = g * 2 + w by omega]; exact R.size (by omega)
theorem Rl.size0 (R : Rl nb v ln io mv sz mk se pv pd) {g : Nat} (hg : g < 6) : sz (2 * g) = ln (g * 2 + 0) := R.size2 (w := 0) hg (by omega)
theorem Rl.grp (R : Rl nb v ln io mv sz mk se pv pd) {w k : Nat} (hw : w < 2) (hk : k < 6) : cn (fun g => isW k (wy (lo io sz (2 * g + w) || !pd w) (lw mv sz (2 * g + w)) (pv w))) 6 = gr nb v ln w k := by
  refine cn_cong (fun g hg => ?_)
  show isW k (wy (lo io sz (2 * g + w) || !pd w) (lw mv sz (2 * g + w)) (pv w)) = rp nb v (lp ln (g * 2 + w)) (162 + w) k
  rw [show 2 * g + w = g * 2 + w by omega]
  obtain ⟨a, b⟩ := R.latP (t := g * 2 + w) (by omega) hw
  rw [a, isW_wv hk b]; rfl
theorem Rl.at (R : Rl nb v ln io mv sz mk se pv pd) {g w k j : Nat} (hg : g < 6) (hw : w < 2) (hk : k < 6) (hj : j < ln (g * 2 + w)) : isW k (wy (io (12 * (2 * g + w) + j) || !pd w) (mv (12 * (2 * g + w) + j)) (pv w)) = rp nb v ((g * 2 + w) * 12 + j) (162 + w) k := by
  rw [show 12 * (2 * g + w) + j = (g * 2 + w) * 12 + j by omega]
  obtain ⟨a, b⟩ := R.strP (t := g * 2 + w) (by omega) hj hw
  rw [a, isW_wv hk b]; rfl
theorem Rl.run_f (R : Rl nb v ln io mv sz mk se pv pd) {g w k : Nat} (hg : g < 6) (hw : w < 2) (hk : k < 6) : nq (fun j => isW k (wy (io (12 * (2 * g + w) + j) || !pd w) (mv (12 * (2 * g + w) + j)) (pv w))) (sz (2 * g + w)) = rnC nb v ln g w k false := by
  rw [(nq_tk _ _).1, R.size2 hg hw]
  unfold rnC
  rw [if_neg (by decide)]
  exact tk_cong (Nat.zero_add _) (fun j hj => R.at hg hw hk hj)
theorem Rl.run_t (R : Rl nb v ln io mv sz mk se pv pd) {g w k : Nat} (hg : g < 6) (hw : w < 2) (hk : k < 6) : nq (fun j => !isW k (wy (io (12 * (2 * g + w) + (sz (2 * g + w) - 1 - j)) || !pd w) (mv (12 * (2 * g + w) + (sz (2 * g + w) - 1 - j))) (pv w))) (sz (2 * g + w)) = rnC nb v ln g w k true := by
  rw [(nq_tk _ _).1, R.size2 hg hw]
  unfold rnC
  rw [if_pos rfl]
  exact tk_cong (Nat.zero_add _) (fun j hj => congrArg Bool.not (R.at hg hw hk (by omega)))
theorem Rl.count (R : Rl nb v ln io mv sz mk se pv pd) {g w k : Nat} (hg : g < 6) (hw : w < 2) (hk : k < 6) (b : Bool) : (if b = true then sz (2 * g + w) - cn (fun j => isW k (wy (io (12 * (2 * g + w) + j) || !pd w) (mv (12 * (2 * g + w) + j)) (pv w))) (sz (2 * g + w)) else cn (fun j => isW k (wy (io (12 * (2 * g + w) + j) || !pd w) (mv (12 * (2 * g + w) + j)) (pv w))) (sz (2 * g + w))) = ctC nb v ln g w k b := by
  have e : cn (fun j => isW k (wy (io (12 * (2 * g + w) + j) || !pd w) (mv (12 * (2 * g + w) + j)) (pv w))) (sz (2 * g + w)) = cn (fun j => rp nb v ((g * 2 + w) * 12 + j) (162 + w) k) (ln (g * 2 + w)) := by
    rw [R.size2 hg hw]
    exact cn_cong (fun j hj => R.at hg hw hk hj)
  rw [e, R.size2 hg hw]; rfl
theorem Rl.holds (R : Rl nb v ln io mv sz mk se pv pd) {g h w k : Nat} (hg : g < 6) (hh : h < 6) (hw : w < 2) (hk : k < 6) : isW k (wy (lo io sz (2 * g + w) || lo io sz (2 * h + w)) (lw mv sz (2 * g + w)) (lw mv sz (2 * h + w))) = rp nb v (lp ln (g * 2 + w)) (lp ln (h * 2 + w)) k := by
  rw [show 2 * g + w = g * 2 + w by omega, show 2 * h + w = h * 2 + w by omega]
  obtain ⟨a, b⟩ := R.lat2 (t := g * 2 + w) (u := h * 2 + w) (by omega) (by omega)
  rw [a, isW_wv hk b]; rfl
theorem Rl.sl (R : Rl nb v ln io mv sz mk se pv pd) {g : Nat} (hg : g < 6) : slM io mv sz mk se g = sL nb v ln g := by
  obtain ⟨a1, a2⟩ := R.latM (t := g * 2 + 0) (q := g * 3 + 0) (by omega) (by omega)
  obtain ⟨b1, b2⟩ := R.latM (t := g * 2 + 0) (q := g * 3 + 1) (by omega) (by omega)
  have c1 := (R.latest (t := g * 2 + 0) (by omega)).1
  have d1 := (R.mark (q := g * 3 + 0) (by omega)).1
  have d2 := (R.mark (q := g * 3 + 1) (by omega)).1
  have e1 := R.size (t := g * 2 + 0) (by omega)
  rw [← Nat.add_assoc] at a1 a2 b1 b2 d1 d2
  unfold slM sL rp
  rw [show 3 * g + 1 = g * 3 + 1 by omega, show 3 * g = g * 3 + 0 by omega, show 2 * g = g * 2 + 0 by omega, a1, b1, c1, d1, d2, e1]
  simp only [wv_1, wv_4, wv_2 a2, wv_2 b2, Bool.not_eq_true']
  cases nb (144 + g * 3 + 0) <;> cases nb (144 + g * 3 + 1) <;> simp
theorem Rl.sw (R : Rl nb v ln io mv sz mk se pv pd) {g : Nat} (hg : g < 6) : swM io mv sz mk se g = sW nb v ln g := by
  obtain ⟨a1, a2⟩ := R.latM (t := g * 2 + 1) (q := g * 3 + 2) (by omega) (by omega)
  have d1 := (R.mark (q := g * 3 + 2) (by omega)).1
  rw [← Nat.add_assoc] at a1 a2 d1
  unfold swM sW rp
  rw [show 3 * g + 2 = g * 3 + 2 by omega, show 2 * g + 1 = g * 2 + 1 by omega, a1, d1]
  simp only [wv_1, wv_lt8]
  generalize FP.dcmp (v (lp ln (g * 2 + 1))) (v (144 + g * 3 + 2)) = o
  cases nb (144 + g * 3 + 2) <;> cases nb (lp ln (g * 2 + 1)) <;> simp [rl]
theorem Rl.stand (R : Rl nb v ln io mv sz mk se pv pd) {g : Nat} (hg : g < 6) : slM io mv sz mk se g + swM io mv sz mk se g = sL nb v ln g + sW nb v ln g := by rw [R.sl hg, R.sw hg]
/-! ### the best of a strip -/
theorem Rl.best (R : Rl nb v ln io mv sz mk se pv pd) {t k y : Nat} (ht : t < 12) (hky : (k = 2 ∧ y = 4) ∨ (k = 0 ∧ y = 1)) : ∀ i, i ≤ ln t → (match bo io mv t y i with
    | none => bs nb v t k i = 164
    | some q => bs nb v t k i = q ∧ q < 144 ∧ nb q = true ∧ mv q = v q ∧ num (v q))
  | 0, _ => rfl
  | i + 1, hi => by
    have ih := R.best ht hky i (by omega)
    have h12 := R.1 t
    have hp := R.strip (t := t) (i := i) ht (by omega)
    rw [bo, bs, show 12 * t + i = t * 12 + i by omega]
    cases hnb : nb (t * 12 + i) with
    | false =>
      rw [hnb] at hp
      rw [hp.1, if_pos (show (!false) = true from rfl), if_neg (fun q => by cases q.1), if_neg (by unfold rp; rw [rl_n1 hnb]; rcases hky with ⟨rfl, -⟩ | ⟨rfl, -⟩ <;> decide)]
      exact ih
    | true =>
      rw [hnb] at hp
      have hp2 := hp.2 rfl
      rw [hp.1, if_neg (by decide)]
      cases hb : bo io mv t y i with
      | none =>
        rw [hb] at ih
        have ih : bs nb v t k i = 164 := ih
        rw [if_pos ⟨rfl, ih⟩]
        exact ⟨rfl, by omega, hnb, hp2.1, hp2.2⟩
      | some q =>
        rw [hb] at ih
        have ih : bs nb v t k i = q ∧ q < 144 ∧ nb q = true ∧ mv q = v q ∧ num (v q) := ih
        obtain ⟨e, h1, h2, h3, h4⟩ := ih
        rw [e, if_neg (fun z => by omega)]
        have hw : wy false (mv (t * 12 + i)) (mv q) = wv true true (FP.dcmp (v (t * 12 + i)) (v q)) := wy_char (a := true) (b := true) (fun _ => hp2) (fun _ => ⟨h3, h4⟩)
        have hiff : wy false (mv (t * 12 + i)) (mv q) = y ↔ rp nb v (t * 12 + i) q k = true := by
          rw [hw]; unfold rp; rw [hnb, h2]
          rcases hky with ⟨rfl, rfl⟩ | ⟨rfl, rfl⟩
          · exact wv_4
          · exact wv_1
        show (match (if wy false (mv (t * 12 + i)) (mv q) = y then some (t * 12 + i) else some q) with
          | none => (if rp nb v (t * 12 + i) q k = true then t * 12 + i else q) = 164
          | some q' => (if rp nb v (t * 12 + i) q k = true then t * 12 + i else q) = q' ∧ q' < 144 ∧ nb q' = true ∧ mv q' = v q' ∧ num (v q'))
        by_cases hc : rp nb v (t * 12 + i) q k = true
        · rw [if_pos hc, if_pos (hiff.mpr hc)]
          exact ⟨rfl, by omega, hnb, hp2.1, hp2.2⟩
        · rw [if_neg hc, if_neg (fun z => hc (hiff.mp z))]
          exact ⟨rfl, h1, h2, h3, h4⟩
theorem Rl.best_none (R : Rl nb v ln io mv sz mk se pv pd) {t k y : Nat} (ht : t < 12) (hky : (k = 2 ∧ y = 4) ∨ (k = 0 ∧ y = 1)) (h : bs nb v t k (ln t) = 164) : bo io mv t y (sz t) = none := by
  have := R.best ht hky (ln t) (Nat.le_refl _)
  rw [R.size ht]
  cases hb : bo io mv t y (ln t) with
  | none => rfl
  | some q =>
    rw [hb] at this
    have this : bs nb v t k (ln t) = q ∧ q < 144 ∧ nb q = true ∧ mv q = v q ∧ num (v q) := this
    omega
theorem Rl.best_some (R : Rl nb v ln io mv sz mk se pv pd) {t k y : Nat} (ht : t < 12) (hky : (k = 2 ∧ y = 4) ∨ (k = 0 ∧ y = 1)) (h : bs nb v t k (ln t) ≠ 164) : bo io mv t y (sz t) = some (bs nb v t k (ln t)) ∧ mv (bs nb v t k (ln t)) = v (bs nb v t k (ln t)) ∧ num (v (bs nb v t k (ln t))) := by
  have := R.best ht hky (ln t) (Nat.le_refl _)
  rw [R.size ht]
  cases hb : bo io mv t y (ln t) with
  | none => rw [hb] at this; exact absurd this h
  | some q =>
    rw [hb] at this
    have this : bs nb v t k (ln t) = q ∧ q < 144 ∧ nb q = true ∧ mv q = v q ∧ num (v q) := this
    obtain ⟨rfl, h1, h2, h3, h4⟩ := this
    exact ⟨rfl, h3, h4⟩
/-! ### the same -/
theorem lk_wv {a b : Nat} (ho : nb a = true → nb b = true → ∃ u, FP.dcmp (v a) (v b) = some u) : lk nb v a b = if wv (nb a) (nb b) (FP.dcmp (v a) (v b)) = 2 then 2 else if nb a = false ∧ nb b = false then 1 else 0 := by
  unfold lk rp
  simp only [wv_2 ho]
  generalize FP.dcmp (v a) (v b) = o
  cases nb a <;> cases nb b <;> simp [rl]
theorem Rl.lkE (R : Rl nb v ln io mv sz mk se pv pd) {t u i : Nat} (ht : t < 12) (hu : u < 12) (hi : i < ln t) (hi2 : i < ln u) : lk nb v (t * 12 + i) (u * 12 + i) = if wy (io (t * 12 + i) || io (u * 12 + i)) (mv (t * 12 + i)) (mv (u * 12 + i)) = 2 then 2 else if io (t * 12 + i) = true ∧ io (u * 12 + i) = true then 1 else 0 := by
  obtain ⟨a1, a2⟩ := R.strip ht hi
  obtain ⟨b1, b2⟩ := R.strip hu hi2
  rw [lk_wv (both (fun q => (a2 q).2) (fun q => (b2 q).2)), a1, b1, wy_char a2 b2]
  simp only [Bool.not_eq_true']
theorem Rl.smE (R : Rl nb v ln io mv sz mk se pv pd) {g h : Nat} (hg : g < 6) (hh : h < 6) : ∀ i, i ≤ ln (g * 2 + 0) → i ≤ ln (h * 2 + 0) → sM io mv g h i = sm nb v (g * 2 + 0) (h * 2 + 0) i
  | 0, _, _ => rfl
  | i + 1, h1, h2 => by
    have ih := R.smE hg hh i (by omega) (by omega)
    have hl := sm_le nb v (g * 2 + 0) (h * 2 + 0) i
    rw [sM, sm, ih, R.lkE (t := g * 2 + 0) (u := h * 2 + 0) (by omega) (by omega) (by omega) (by omega), show 24 * g + i = (g * 2 + 0) * 12 + i by omega, show 24 * h + i = (h * 2 + 0) * 12 + i by omega]
    generalize sm nb v (g * 2 + 0) (h * 2 + 0) i = n at hl ⊢
    simp only [Nat.min_def]
    split
    · rename_i q; rw [q]; simp
    · split
      · first | rfl | omega | (split <;> omega)
      · split <;> split <;> omega
theorem Rl.same (R : Rl nb v ln io mv sz mk se pv pd) {g h : Nat} (hg : g < 6) (hh : h < 6) : (if sz (2 * g) = sz (2 * h) then sM io mv g h (sz (2 * g)) else 0) = saC nb v ln g h := by
  rw [R.size0 hg, R.size0 hh]
  unfold saC
  split
  · rename_i q; exact R.smE hg hh _ (Nat.le_refl _) (Nat.le_of_eq q)
  · rfl
/-! ### the gate -/
theorem Rl.o1 (R : Rl nb v ln io mv sz mk se pv pd) : wy (lo io sz 0 || lo io sz 2) (lw mv sz 0) (lw mv sz 2) = 4 ↔ rp nb v (lp ln (0 * 2 + 0)) (lp ln (1 * 2 + 0)) 2 = true := by
  obtain ⟨a, b⟩ := R.lat2 (t := 0) (u := 2) (by omega) (by omega)
  rw [a]; exact wv_4
theorem Rl.o3 (R : Rl nb v ln io mv sz mk se pv pd) : wy (lo io sz 3 || !se 5) (lw mv sz 3) (mk 5) = 1 ↔ rp nb v (lp ln (1 * 2 + 1)) (144 + 1 * 3 + 2) 0 = true := by
  obtain ⟨a, b⟩ := R.latM (t := 3) (q := 5) (by omega) (by omega)
  rw [a]; exact wv_1
theorem Rl.s1 (R : Rl nb v ln io mv sz mk se pv pd) : wy (lo io sz 0 || !se 0) (lw mv sz 0) (mk 0) = 4 ↔ rp nb v (lp ln (0 * 2 + 0)) (144 + 0 * 3 + 0) 2 = true := by
  obtain ⟨a, b⟩ := R.latM (t := 0) (q := 0) (by omega) (by omega)
  rw [a]; exact wv_4
theorem Rl.s2 (R : Rl nb v ln io mv sz mk se pv pd) : wy (lo io sz 2 || !se 1) (lw mv sz 2) (mk 1) < 4 ↔ rp nb v (lp ln (1 * 2 + 0)) (144 + 0 * 3 + 1) 1 = true := by
  obtain ⟨a, b⟩ := R.latM (t := 2) (q := 1) (by omega) (by omega)
  rw [a]; exact wv_lt4 b
theorem Rl.tMoE (R : Rl nb v ln io mv sz mk se pv pd) (op : Bool) : tMo io mv sz mk se op = if op = true then 1 else if rp nb v (lp ln (0 * 2 + 0)) (lp ln (1 * 2 + 0)) 2 = false then 2 else if nb (144 + 1 * 3 + 2) = true ∧ rp nb v (lp ln (1 * 2 + 1)) (144 + 1 * 3 + 2) 0 = false then 3 else 0 := by
  have h5 : se 5 = nb (144 + 1 * 3 + 2) := (R.mark (q := 5) (by omega)).1
  unfold tMo thr
  simp only [R.o1, R.o3, Bool.and_eq_true, decide_eq_true_eq, Bool.not_eq_true]
  rw [h5]
theorem Rl.tMsE (R : Rl nb v ln io mv sz mk se pv pd) (op : Bool) : tMs io mv sz mk se op = if op = false then 1 else if rp nb v (lp ln (0 * 2 + 0)) (144 + 0 * 3 + 0) 2 = true then 2 else if rp nb v (lp ln (1 * 2 + 0)) (144 + 0 * 3 + 1) 1 = true then 3 else 0 := by
  unfold tMs thr
  simp only [R.s1, R.s2, decide_eq_true_eq, Bool.not_eq_true']
/-! ### the order -/
theorem inj_onto : ∀ (n : Nat) (f : Nat → Nat), (∀ i, i < n → f i < n) → (∀ i j, i < n → j < n → f i = f j → i = j) → ∀ y, y < n → ∃ i, i < n ∧ f i = y
  | 0, _, _, _, y, hy => absurd hy (by omega)
  | n + 1, f, h1, h2, y, hy => by
    have hg1 : ∀ i, i < n → (if f i = n then f n else f i) < n := by
      intro i hi
      have a := h1 i (by omega)
      have b := h1 n (by omega)
      have c := h2 i n (by omega) (by omega)
      split <;> omega
    have hg2 : ∀ i j, i < n → j < n → (if f i = n then f n else f i) = (if f j = n then f n else f j) → i = j := by
      intro i j hi hj he
      have c1 := h2 i n (by omega) (by omega)
      have c2 := h2 j n (by omega) (by omega)
      have c3 := h2 i j (by omega) (by omega)
      split at he <;> split at he <;> omega
    have ih := inj_onto n (fun i => if f i = n then f n else f i) hg1 hg2
    have hm := h1 n (by omega)
    by_cases e : y = f n
    · exact ⟨n, by omega, e.symm⟩
    · by_cases e2 : y = n
      · obtain ⟨i, hi, he⟩ := ih (f n) (by omega)
        have he : (if f i = n then f n else f i) = f n := he
        have c1 := h2 i n (by omega) (by omega)
        refine ⟨i, by omega, ?_⟩
        split at he <;> omega
      · obtain ⟨i, hi, he⟩ := ih y (by omega)
        have he : (if f i = n then f n else f i) = y := he
        refine ⟨i, by omega, ?_⟩
        split at he <;> omega
theorem cn_mono {P Q : Nat → Bool} : ∀ {n : Nat}, (∀ i, i < n → P i = true → Q i = true) → cn P n ≤ cn Q n
  | 0, _ => Nat.le_refl _
  | n + 1, h => by
    have ih := cn_mono (n := n) (fun i hi => h i (by omega))
    have h0 := h n (by omega)
    unfold cn
    cases hp : P n with
    | false => simp; omega
    | true => rw [h0 hp]; simp; omega
theorem cn_lt {P Q : Nat → Bool} : ∀ {n : Nat}, (∀ i, i < n → P i = true → Q i = true) → ∀ {j : Nat}, j < n → P j = false → Q j = true → cn P n < cn Q n
  | 0, _, _, hj, _, _ => absurd hj (by omega)
  | n + 1, h, j, hj, hp, hq => by
    by_cases e : j = n
    · subst e
      have := cn_mono (n := j) (fun i hi => h i (by omega))
      rw [cn_f hp, cn_t hq]; omega
    · have ih := cn_lt (n := n) (fun i hi => h i (by omega)) (j := j) (by omega) hp hq
      have h0 := h n (by omega)
      unfold cn
      cases hp' : P n with
      | false => simp; omega
      | true => rw [h0 hp']; simp; omega
/-- ranks by a strict order of n things are each taken -/
theorem ranks {n : Nat} {A : Nat → Nat → Bool} (irr : ∀ i, i < n → A i i = false) (tr : ∀ i j k, i < n → j < n → k < n → A i j = true → A j k = true → A i k = true) (tot : ∀ i j, i < n → j < n → i ≠ j → A i j = true ∨ A j i = true) {k : Nat} (hk : k < n) : ∃ g, g < n ∧ cn (fun j => A j g) n = k := by
  have hlt : ∀ i j, i < n → j < n → A i j = true → cn (fun z => A z i) n < cn (fun z => A z j) n := fun i j hi hj h => cn_lt (fun z hz q => tr z i j hz hi hj q h) hi (irr i hi) h
  refine inj_onto n (fun g => cn (fun j => A j g) n) (fun i hi => ?_) (fun i j hi hj e => ?_) k hk
  · have := cn_lt (P := fun z => A z i) (Q := fun _ => true) (n := n) (fun _ _ _ => rfl) hi (irr i hi) rfl
    exact Nat.lt_of_lt_of_le this (cn_le _ _)
  · refine Classical.byContradiction fun hne => ?_
    rcases tot i j hi hj hne with h | h
    · have := hlt i j hi hj h
      exact absurd e (Nat.ne_of_lt this)
    · have := hlt j i hj hi h
      exact absurd e.symm (Nat.ne_of_lt this)
/-- the key of a place: out lies lowest -/
def kz (nb : Nat → Bool) (v : Nat → UInt64) (a : Nat) : Int := if nb a = true then FP.Core.dkey (v a) else -(2 ^ 65)
theorem dkey_lo (x : UInt64) : -(2 ^ 64) < FP.Core.dkey x := by
  have := x.toNat_lt
  unfold FP.Core.dkey
  split <;> omega
theorem ahp_key {a b g h : Nat} (h1 : nb a = true → num (v a)) (h2 : nb b = true → num (v b)) : ahp nb v a b g h = decide (kz nb v b < kz nb v a ∨ (kz nb v b = kz nb v a ∧ g < h)) := by
  have k1 := dkey_lo (v a)
  have k2 := dkey_lo (v b)
  unfold ahp lk rp kz
  cases ha : nb a with
  | false => cases hb : nb b with
    | false => simp
    | true =>
      simp [rl]
      omega
  | true => cases hb : nb b with
    | false =>
      simp [rl]
      omega
    | true =>
      have n1 := (FP.Core.notNaN_iff _).mp (h1 ha)
      have n2 := (FP.Core.notNaN_iff _).mp (h2 hb)
      have l1 := FP.Core.dcmp_lt_key n1 n2
      have l2 := FP.Core.dcmp_eq_key n1 n2
      have l3 := FP.Core.dcmp_gt_key n1 n2
      obtain ⟨o, ho⟩ := num_cmp (h1 ha) (h2 hb)
      have ho' : FP.Core.dcmp (v a) (v b) = some o := ho
      rw [ho'] at l1 l2 l3
      rw [ho]
      cases o with
      | lt => have := l1.mp rfl; simp [rl, rk, oEq, oGt]; omega
      | eq => have := l2.mp rfl; simp [rl, rk, oEq, oGt, this]
      | gt => have := l3.mp rfl; simp [rl, rk, oEq, oGt]; omega
theorem Rl.latN (R : Rl nb v ln io mv sz mk se pv pd) {t : Nat} (ht : t < 12) : nb (lp ln t) = true → num (v (lp ln t)) := fun q => ((R.latest ht).2 q).2
theorem Rl.ahK (R : Rl nb v ln io mv sz mk se pv pd) {g h : Nat} (hg : g < 6) (hh : h < 6) : ahd nb v ln g h = decide (kz nb v (lp ln (h * 2 + 0)) < kz nb v (lp ln (g * 2 + 0)) ∨ (kz nb v (lp ln (h * 2 + 0)) = kz nb v (lp ln (g * 2 + 0)) ∧ g < h)) := ahp_key (R.latN (by omega)) (R.latN (by omega))
theorem Rl.onto (R : Rl nb v ln io mv sz mk se pv pd) {k : Nat} (hk : k < 6) : ∃ g, g < 6 ∧ ga nb v ln g = k := by
  refine ranks (n := 6) (A := ahd nb v ln) (fun i hi => ?_) (fun i j k hi hj hk h1 h2 => ?_) (fun i j hi hj hne => ?_) hk
  · rw [R.ahK hi hi]; simp
  · rw [R.ahK hi hj, decide_eq_true_eq] at h1
    rw [R.ahK hj hk, decide_eq_true_eq] at h2
    rw [R.ahK hi hk, decide_eq_true_eq]; omega
  · rw [R.ahK hi hj, R.ahK hj hi, decide_eq_true_eq, decide_eq_true_eq]; omega
theorem Rl.ah (R : Rl nb v ln io mv sz mk se pv pd) {g h : Nat} (hg : g < 6) (hh : h < 6) (hne : g ≠ h) : ahM io mv sz g h = ahd nb v ln g h := by
  have hg2 := R.latest (t := g * 2 + 0) (by omega)
  have hh2 := R.latest (t := h * 2 + 0) (by omega)
  obtain ⟨w1, w2⟩ := R.lat2 (t := g * 2 + 0) (u := h * 2 + 0) (by omega) (by omega)
  unfold ahM ahd ahp
  rw [show 2 * g = g * 2 + 0 by omega, show 2 * h = h * 2 + 0 by omega, w1, hg2.1, hh2.1]
  unfold lk rp
  generalize FP.dcmp (v (lp ln (g * 2 + 0))) (v (lp ln (h * 2 + 0))) = o at w2 ⊢
  cases ha : nb (lp ln (g * 2 + 0)) <;> cases hb : nb (lp ln (h * 2 + 0))
  · simp [wv]
  · simp [wv, rl]
  · simp [wv, rl]
  · obtain ⟨u, rfl⟩ := w2 ha hb
    cases u <;> simp [wv, rl, rk, oEq, oGt]
theorem Rl.rank (R : Rl nb v ln io mv sz mk se pv pd) {g : Nat} (hg : g < 6) : rkM io mv sz g = ga nb v ln g := by
  refine cn_cong (fun j hj => ?_)
  show (decide (j ≠ g) && ahM io mv sz j g) = ahd nb v ln j g
  by_cases e : j = g
  · subst e
    rw [R.ahK hj hj]; simp
  · rw [R.ah hj hg e]; simp [e]
theorem fo_fM {f F : Nat → Nat} {k : Nat} : ∀ {n : Nat}, (∀ i, i < n → f i = F i) → (∃ g, g < n ∧ f g = k) → fo f k n = nI (fM F k n)
  | 0, _, h => by obtain ⟨g, hg, -⟩ := h; omega
  | n + 1, h, ⟨g, hg, e⟩ => by
    unfold fo fM
    rw [← h n (by omega)]
    by_cases q : f n = k
    · rw [if_pos q, if_pos q]
    · rw [if_neg q, if_neg q]
      refine fo_fM (fun i hi => h i (by omega)) ⟨g, ?_, e⟩
      rcases Nat.lt_or_ge g n with z | z
      · exact z
      · have : g = n := by omega
        subst this
        exact absurd e q
theorem Rl.order (R : Rl nb v ln io mv sz mk se pv pd) {k : Nat} (hk : k < 6) : fo (ga nb v ln) k 6 = nI (fM (rkM io mv sz) k 6) := fo_fM (fun _ hi => (R.rank hi).symm) (R.onto hk)
/-! ### it stays so -/
theorem live_lt (R : Rl nb v ln io mv sz mk se pv pd) {q : Nat} (h : live ln q) : q < 144 := by
  obtain ⟨t, i, h1, h2, rfl⟩ := h
  have := R.1 t
  omega
theorem Rl.app (R : Rl nb v ln io mv sz mk se pv pd) {t t' p' : Nat} (ht : t < 12) (hr : ln t < 12) (ht' : t' = t) (hp' : p' = t * 12 + ln t) (b : Bool) {v' : Nat → UInt64} {y : UInt64} (hv : ∀ q, q ≠ t * 12 + ln t → v' q = v q) (hy : b = true → y = v' (t * 12 + ln t) ∧ num (v' (t * 12 + ln t))) : Rl (up nb (t * 12 + ln t) b) v' (up ln t (ln t + 1)) (up io p' (!b)) (up mv p' y) (up sz t' (sz t' + 1)) mk se pv pd := by
  subst ht'; subst hp'
  obtain ⟨h1, h2, h3, h4, h5, h6, h7⟩ := R
  refine ⟨up_le h1 (by omega), up_le h2 (by have := h3 t' ht; omega), fun u hu => ?_, fun q hq => ?_, fun q hq => ?_, fun w hw => ?_, ?_⟩
  · by_cases e : u = t'
    · subst e; rw [up_s, up_s, h3 u hu]
    · rw [up_n _ _ e, up_n _ _ e, h3 u hu]
  · by_cases e : q = t' * 12 + ln t'
    · subst e
      rw [up_s, up_s, up_s]
      exact ⟨rfl, hy⟩
    · rw [up_n _ _ e, up_n _ _ e, up_n _ _ e, hv q e]
      refine h4 q ?_
      obtain ⟨u, i, hu, hi, rfl⟩ := hq
      refine ⟨u, i, hu, ?_, rfl⟩
      by_cases eu : u = t'
      · subst eu
        rw [up_s] at hi
        have : i ≠ ln u := fun z => e (by rw [z])
        omega
      · rwa [up_n _ _ eu] at hi
  · have e : 144 + q ≠ t' * 12 + ln t' := by omega
    rw [up_n _ _ e, hv _ e]; exact h5 q hq
  · have e : 162 + w ≠ t' * 12 + ln t' := by omega
    rw [up_n _ _ e, hv _ e]; exact h6 w hw
  · rw [up_n _ _ (by omega)]; exact h7
theorem Rl.clr (R : Rl nb v ln io mv sz mk se pv pd) {g : Nat} (hg : g < 6) : Rl nb v (up (up ln (g * 2 + 0) 0) (g * 2 + 1) 0) io mv (up (up sz (2 * g) 0) (2 * g + 1) 0) mk se pv pd := by
  rw [show 2 * g + 1 = g * 2 + 1 by omega, show 2 * g = g * 2 + 0 by omega]
  obtain ⟨h1, h2, h3, h4, h5, h6, h7⟩ := R
  refine ⟨up_le (up_le h1 (by omega)) (by omega), up_le (up_le h2 (by omega)) (by omega), fun u hu => ?_, fun q hq => ?_, h5, h6, h7⟩
  · unfold up
    rw [h3 u hu]
  · refine h4 q ?_
    obtain ⟨u, i, hu, hi, rfl⟩ := hq
    refine ⟨u, i, hu, ?_, rfl⟩
    unfold up at hi
    split at hi
    · omega
    · split at hi
      · omega
      · exact hi
theorem Rl.mrk (R : Rl nb v ln io mv sz mk se pv pd) {q q' p : Nat} (hq : q < 18) (e1 : q' = q) (e2 : p = 144 + q) (b : Bool) {v' : Nat → UInt64} {y : UInt64} (hv : ∀ z, z ≠ 144 + q → v' z = v z) (hy : b = true → y = v' (144 + q) ∧ num (v' (144 + q))) : Rl (up nb p b) v' ln io mv sz (up mk q' y) (up se q' b) pv pd := by
  subst e1; subst e2
  have hlt := fun z hz => live_lt R (q := z) hz
  obtain ⟨h1, h2, h3, h4, h5, h6, h7⟩ := R
  refine ⟨h1, h2, h3, fun z hz => ?_, fun z hz => ?_, fun w hw => ?_, ?_⟩
  · have e : z ≠ 144 + q' := by have := hlt z hz; omega
    rw [up_n _ _ e, hv _ e]; exact h4 z hz
  · by_cases e : z = q'
    · subst e; rw [up_s, up_s, up_s]; exact ⟨rfl, hy⟩
    · have e2 : 144 + z ≠ 144 + q' := by omega
      rw [up_n _ _ e, up_n _ _ e, up_n _ _ e2, hv _ e2]; exact h5 z hz
  · have e : 162 + w ≠ 144 + q' := by omega
    rw [up_n _ _ e, hv _ e]; exact h6 w hw
  · rw [up_n _ _ (by omega)]; exact h7
theorem Rl.prb (R : Rl nb v ln io mv sz mk se pv pd) {w : Nat} (hw : w < 2) (b : Bool) {v' : Nat → UInt64} {y : UInt64} (hv : ∀ z, z ≠ 162 + w → v' z = v z) (hy : b = true → y = v' (162 + w) ∧ num (v' (162 + w))) : Rl (up nb (162 + w) b) v' ln io mv sz mk se (up pv w y) (up pd w b) := by
  have hlt := fun z hz => live_lt R (q := z) hz
  obtain ⟨h1, h2, h3, h4, h5, h6, h7⟩ := R
  refine ⟨h1, h2, h3, fun z hz => ?_, fun z hz => ?_, fun z hz => ?_, ?_⟩
  · have e : z ≠ 162 + w := by have := hlt z hz; omega
    rw [up_n _ _ e, hv _ e]; exact h4 z hz
  · have e : 144 + z ≠ 162 + w := by omega
    rw [up_n _ _ e, hv _ e]; exact h5 z hz
  · by_cases e : z = w
    · subst e; rw [up_s, up_s, up_s]; exact ⟨rfl, hy⟩
    · have e2 : 162 + z ≠ 162 + w := by omega
      rw [up_n _ _ e, up_n _ _ e, up_n _ _ e2, hv _ e2]; exact h6 z hz
  · rw [up_n _ _ (by omega)]; exact h7
/-! ### and so for each call that changes something -/
theorem Rl.app_t (R : Rl nb v ln io mv sz mk se pv pd) {g w : Nat} (hg : g < 6) (hw : w < 2) (hr : ln (g * 2 + w) < 12) {x : UInt64} (hx : num x) : Rl (up nb ((g * 2 + w) * 12 + ln (g * 2 + w)) true) (up v ((g * 2 + w) * 12 + ln (g * 2 + w)) x) (up ln (g * 2 + w) (ln (g * 2 + w) + 1)) (up io (12 * (2 * g + w) + sz (2 * g + w)) false) (up mv (12 * (2 * g + w) + sz (2 * g + w)) x) (up sz (2 * g + w) (sz (2 * g + w) + 1)) mk se pv pd :=
  R.app (t := g * 2 + w) (by omega) hr (by omega) (by rw [R.size2 hg hw]; omega) true (fun q h => up_n _ _ h) (fun _ => ⟨(up_s _ _ _).symm, by rw [up_s]; exact hx⟩)
theorem Rl.app_o (R : Rl nb v ln io mv sz mk se pv pd) {g w : Nat} (hg : g < 6) (hw : w < 2) (hr : ln (g * 2 + w) < 12) (y : UInt64) : Rl (up nb ((g * 2 + w) * 12 + ln (g * 2 + w)) false) v (up ln (g * 2 + w) (ln (g * 2 + w) + 1)) (up io (12 * (2 * g + w) + sz (2 * g + w)) true) (up mv (12 * (2 * g + w) + sz (2 * g + w)) y) (up sz (2 * g + w) (sz (2 * g + w) + 1)) mk se pv pd :=
  R.app (t := g * 2 + w) (by omega) hr (by omega) (by rw [R.size2 hg hw]; omega) false (fun _ _ => rfl) (fun q => by cases q)
theorem Rl.mrk_t (R : Rl nb v ln io mv sz mk se pv pd) {g k : Nat} (hg : g < 6) (hk : k < 3) {x : UInt64} (hx : num x) : Rl (up nb (144 + g * 3 + k) true) (up v (144 + g * 3 + k) x) ln io mv sz (up mk (3 * g + k) x) (up se (3 * g + k) true) pv pd :=
  R.mrk (q := 3 * g + k) (by omega) rfl (by omega) true (fun z h => up_n _ _ (by omega)) (fun _ => by rw [show 144 + (3 * g + k) = 144 + g * 3 + k by omega, up_s]; exact ⟨rfl, hx⟩)
theorem Rl.mrk_f (R : Rl nb v ln io mv sz mk se pv pd) {g k : Nat} (hg : g < 6) (hk : k < 3) (y : UInt64) : Rl (up nb (144 + g * 3 + k) false) v ln io mv sz (up mk (3 * g + k) y) (up se (3 * g + k) false) pv pd :=
  R.mrk (q := 3 * g + k) (by omega) rfl (by omega) false (fun _ _ => rfl) (fun q => by cases q)
theorem Rl.was (R : Rl nb v ln io mv sz mk se pv pd) {g k : Nat} (hg : g < 6) (hk : k < 3) : se (3 * g + k) = nb (144 + g * 3 + k) := by
  rw [(R.mark (q := 3 * g + k) (by omega)).1, show 144 + (3 * g + k) = 144 + g * 3 + k by omega]
theorem Rl.prb_t (R : Rl nb v ln io mv sz mk se pv pd) {w : Nat} (hw : w < 2) {x : UInt64} (hx : num x) : Rl (up nb (162 + w) true) (up v (162 + w) x) ln io mv sz mk se (up pv w x) (up pd w true) :=
  R.prb hw true (fun z h => up_n _ _ h) (fun _ => by rw [up_s]; exact ⟨rfl, hx⟩)
theorem Rl.prb_f (R : Rl nb v ln io mv sz mk se pv pd) {w : Nat} (hw : w < 2) (y : UInt64) : Rl (up nb (162 + w) false) v ln io mv sz mk se (up pv w y) (up pd w false) :=
  R.prb hw false (fun _ _ => rfl) (fun q => by cases q)
theorem Rl.prb_n (R : Rl nb v ln io mv sz mk se pv pd) {w k : Nat} (hw : w < 2) (hk : k < 6) {x : UInt64} (hx : num x) : cn (fun g => isW k (wy (lo io sz (2 * g + w) || !true) (lw mv sz (2 * g + w)) x)) 6 = gr (up nb (162 + w) true) (up v (162 + w) x) ln w k := by
  have := (R.prb_t hw hx).grp hw hk
  simp only [up_s] at this
  exact this
theorem Rl.prb_m (R : Rl nb v ln io mv sz mk se pv pd) {w k : Nat} (hw : w < 2) (hk : k < 6) (y : UInt64) : cn (fun g => isW k (wy (lo io sz (2 * g + w) || !false) (lw mv sz (2 * g + w)) y)) 6 = gr (up nb (162 + w) false) v ln w k := by
  have := (R.prb_f hw y).grp hw hk
  simp only [up_s] at this
  exact this
theorem Rl.start : Rl (fun _ => false) (fun _ => 0) (fun _ => 0) (fun _ => false) (fun _ => 0) (fun _ => 0) (fun _ => 0) (fun _ => false) (fun _ => 0) (fun _ => false) :=
  ⟨fun _ => Nat.zero_le _, fun _ => Nat.zero_le _, fun _ _ => rfl, fun q h => by obtain ⟨t, i, -, h2, -⟩ := h; exact absurd h2 (Nat.not_lt_zero _), fun _ _ => ⟨rfl, fun q => by cases q⟩, fun _ _ => ⟨rfl, fun q => by cases q⟩, rfl⟩
end SAME
