/-! What a state is: the board's four cells, the model's eight, the array classes; the pure words of what the methods answer. -/
abbrev WB (h0 hn hd hq : Nat) (cZ cD cI : ClassId) (nb : Nat → Bool) (v : Nat → UInt64) (ln : Nat → Nat) (go : Bool) (mv : Int32) : va_W := [(h0, .inr (1, [.ref hn, .ref hd, .ref hq, .int (b2i go), .int mv])), (hn, .inl (cZ, 165, .inl (fun j => b2i (nb j)))), (hd, .inl (cD, 165, .inr (.inr (.inr (.inl v))))), (hq, .inl (cI, 12, .inl (fun j => nI (ln j))))]
abbrev WM (k0 kv ko ks km kt kp kb : Nat) (cZ cD cI : ClassId) (th : Nat) (mv : Nat → UInt64) (io : Nat → Bool) (sz : Nat → Nat) (mk : Nat → UInt64) (se : Nat → Bool) (pv : Nat → UInt64) (pd : Nat → Bool) (op : Bool) (mw : Int32) : va_W := [(k0, .inr (2, [.int (nI th), .ref kv, .ref ko, .ref ks, .ref km, .ref kt, .ref kp, .ref kb, .int (b2i op), .int mw])), (kv, .inl (cD, 144, .inr (.inr (.inr (.inl mv))))), (ko, .inl (cZ, 144, .inl (fun j => b2i (io j)))), (ks, .inl (cI, 12, .inl (fun j => nI (sz j)))), (km, .inl (cD, 18, .inr (.inr (.inr (.inl mk))))), (kt, .inl (cZ, 18, .inl (fun j => b2i (se j)))), (kp, .inl (cD, 2, .inr (.inr (.inr (.inl pv))))), (kb, .inl (cZ, 2, .inl (fun j => b2i (pd j))))]
abbrev TY (cZ cD cI : ClassId) : List (ClassId × FieldType) := [(cZ, .boolean), (cD, .double), (cI, .int)]
theorem b2i_fit (b : Bool) : fits .boolean (.int (b2i b)) = true := by cases b <;> rfl
theorem nI_min {a b : Nat} (ha : a < 2147483648) (hb : b < 2147483648) : (if nI b < nI a then nI b else nI a) = nI (Nat.min a b) := by
  by_cases h : b < a
  · rw [if_pos ((nI_ltI hb ha).mpr h)]; congr 1; simp [Nat.min_def]; omega
  · rw [if_neg (fun q => h ((nI_ltI hb ha).mp q))]; congr 1; simp [Nat.min_def]; omega
/-- the relation k of two things, given whether each is a number and how they compare -/
def rk (k : Nat) (o : Option Ordering) : Bool := match k with | 0 => oLt o | 1 => oLe o | 2 => oGt o | 3 => oGe o | 4 => oEq o | _ => !oEq o
def rl (x y : Bool) (k : Nat) (o : Option Ordering) : Bool := if x && y then rk k o else decide (k = 5)
theorem rl_n1 {x y : Bool} {k : Nat} {o : Option Ordering} (h : x = false) : rl x y k o = decide (k = 5) := by simp [rl, h]
theorem rl_n2 {x y : Bool} {k : Nat} {o : Option Ordering} (h : y = false) : rl x y k o = decide (k = 5) := by simp [rl, h]
theorem rl_y {x y : Bool} {k : Nat} {o : Option Ordering} (h1 : x = true) (h2 : y = true) : rl x y k o = rk k o := by simp [rl, h1, h2]
theorem rk_big {k : Nat} {o : Option Ordering} (h : 5 ≤ k) : rk k o = !oEq o := by
  match k, h with
  | k + 5, _ => rfl
/-- two places of a board -/
def rp (nb : Nat → Bool) (v : Nat → UInt64) (a b k : Nat) : Bool := rl (nb a) (nb b) k (FP.dcmp (v a) (v b))
/-- the place of the latest -/
def lp (ln : Nat → Nat) (t : Nat) : Nat := if ln t = 0 then 164 else t * 12 + (ln t - 1)
theorem lp_lt {ln : Nat → Nat} (h : ∀ j, ln j ≤ 12) {t : Nat} (ht : t < 12) : lp ln t < 165 := by
  have := h t; unfold lp; split <;> omega
theorem lp_0 {ln : Nat → Nat} {t : Nat} (h : ln t = 0) : lp ln t = 164 := by simp [lp, h]
theorem lp_1 {ln : Nat → Nat} {t : Nat} (h : ln t ≠ 0) : lp ln t = t * 12 + (ln t - 1) := by simp [lp, h]
/-- likeness: 2 equal, 1 both out, 0 else -/
def lk (nb : Nat → Bool) (v : Nat → UInt64) (a b : Nat) : Nat := if nb a = false ∧ nb b = false then 1 else if rp nb v a b 4 = true then 2 else 0
theorem lk_le {nb : Nat → Bool} {v : Nat → UInt64} {a b : Nat} : lk nb v a b ≤ 2 := by unfold lk; split; omega; split <;> omega
/-- is the place a (of gauge g) ahead of b (of gauge h) -/
def ahp (nb : Nat → Bool) (v : Nat → UInt64) (a b g h : Nat) : Bool := if lk nb v a b = 0 then nb a && (!nb b || rp nb v a b 2) else decide (g < h)
def ahd (nb : Nat → Bool) (v : Nat → UInt64) (ln : Nat → Nat) (g h : Nat) : Bool := ahp nb v (lp ln (g * 2 + 0)) (lp ln (h * 2 + 0)) g h
/-- how many of 0 .. n-1 hold P -/
def cn (P : Nat → Bool) : Nat → Nat
  | 0 => 0
  | n + 1 => cn P n + (if P n then 1 else 0)
theorem cn_t {P : Nat → Bool} {i : Nat} (h : P i = true) : cn P (i + 1) = cn P i + 1 := by simp [cn, h]
theorem cn_f {P : Nat → Bool} {i : Nat} (h : P i = false) : cn P (i + 1) = cn P i := by simp [cn, h]
theorem cn_le (P : Nat → Bool) : ∀ n, cn P n ≤ n
  | 0 => Nat.le_refl _
  | n + 1 => by have := cn_le P n; unfold cn; split <;> omega
/-- how far P holds from i on, k steps at most -/
def tk (P : Nat → Bool) : Nat → Nat → Nat
  | 0, i => i
  | k + 1, i => if P i then tk P k (i + 1) else i
theorem tk_t {P : Nat → Bool} {k i : Nat} (h : P i = true) : tk P (k + 1) i = tk P k (i + 1) := by simp [tk, h]
theorem tk_f {P : Nat → Bool} {k i : Nat} (h : P i = false) : tk P (k + 1) i = i := by simp [tk, h]
theorem tk_le (P : Nat → Bool) : ∀ k i, tk P k i ≤ i + k
  | 0, i => Nat.le_refl _
  | k + 1, i => by have := tk_le P k (i + 1); unfold tk; split <;> omega
theorem rb_gt {n i : Nat} (hn : n < 1000) (hi : i < 1000) : nI n - nI 1 < nI i ↔ n ≤ i := by
  rw [Int32.lt_iff_toInt_lt, pk_sub_toInt (by omega) (by omega), nI_toInt (by omega)]; omega
theorem rb_sub {n i : Nat} (hi : i < n) (hn : n < 1000) : nI n - nI 1 - nI i = nI (n - 1 - i) := by
  rw [pk_sub (by omega), pk_sub (by omega)]
/-- stand: by the level, by the wind -/
def sW (nb : Nat → Bool) (v : Nat → UInt64) (ln : Nat → Nat) (g : Nat) : Nat := if nb (144 + g * 3 + 2) = false then 0 else if nb (lp ln (g * 2 + 1)) = false then 30 else if rp nb v (lp ln (g * 2 + 1)) (144 + g * 3 + 2) 0 = true then 10 else 20
def sL (nb : Nat → Bool) (v : Nat → UInt64) (ln : Nat → Nat) (g : Nat) : Nat := if ln (g * 2 + 0) = 0 then 0 else if nb (lp ln (g * 2 + 0)) = false then 1 else if rp nb v (lp ln (g * 2 + 0)) (144 + g * 3 + 0) 0 = true then 2 else if rp nb v (lp ln (g * 2 + 0)) (144 + g * 3 + 1) 2 = true then 3
  else if rp nb v (lp ln (g * 2 + 0)) (144 + g * 3 + 0) 4 = true ∨ rp nb v (lp ln (g * 2 + 0)) (144 + g * 3 + 1) 4 = true then 4 else if nb (144 + g * 3 + 0) = true ∨ nb (144 + g * 3 + 1) = true then 6 else 5
def gr (nb : Nat → Bool) (v : Nat → UInt64) (ln : Nat → Nat) (w k : Nat) : Nat := cn (fun g => rp nb v (lp ln (g * 2 + w)) (162 + w) k) 6
def ga (nb : Nat → Bool) (v : Nat → UInt64) (ln : Nat → Nat) (g : Nat) : Nat := cn (fun j => ahd nb v ln j g) 6
