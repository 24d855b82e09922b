/-- a float of the winds' range is a number, as a double too -/
theorem n64_of {r : UInt64} (h : FP.dIsNaN r = false) : vf_n64 r := by
  have h1 : ¬ 9218868437227405312 < r.toNat % 2 ^ 63 := fun q => by
    have h2 := (FP.Core.isNaN_bits r).mpr q
    have h3 : FP.Core.dIsNaN r = false := h
    rw [h3] at h2; cases h2
  unfold vf_n64
  rw [UInt64.le_iff_toNat_le, UInt64.toNat_and]
  have e : (0x7fffffffffffffff : UInt64).toNat = 2 ^ 63 - 1 := rfl
  have e2 : (0x7ff0000000000000 : UInt64).toNat = 9218868437227405312 := rfl
  rw [e, Nat.and_two_pow_sub_one_eq_mod, e2]
  omega
theorem n32_of {r : UInt32} (h : FP.fIsNaN r = false) : vf_n32 r := by
  have h1 : ¬ 2139095040 < r.toNat % 2 ^ 31 := fun q => by
    have h2 := (FP.Core.isNaN_bits32 r).mpr q
    have h3 : FP.Core.fIsNaN r = false := h
    rw [h3] at h2; cases h2
  unfold vf_n32
  rw [UInt32.le_iff_toNat_le, UInt32.toNat_and]
  have e : (0x7fffffff : UInt32).toNat = 2 ^ 31 - 1 := rfl
  have e2 : (0x7f800000 : UInt32).toNat = 2139095040 := rfl
  rw [e, Nat.and_two_pow_sub_one_eq_mod, e2]
  omega
theorem wnd_num {x : UInt32} (h : wnd x = true) : FP.fIsNaN x = false := by
  cases hc : FP.fcmp x FP.fconst0 with
  | none => simp [wnd, hc, oGe] at h
  | some o => exact (FP.Core.fcmp_notNaN hc).1
theorem lvl_num {x : UInt64} (h : lvl x = true) : FP.dIsNaN x = false := by
  cases hc : FP.dcmp x 13875379345695965184 with
  | none => simp [lvl, hc, oGe] at h
  | some o => exact (FP.Core.dcmp_notNaN hc).1
theorem f2d_n {x : UInt32} (h : wnd x = true) : vf_n64 (FP.f2d x) := n64_of (by rw [FP.f2d_nan]; exact wnd_num h)
def rnC (nb : Nat → Bool) (v : Nat → UInt64) (ln : Nat → Nat) (g w k : Nat) (b : Bool) : Nat := if b = true then tk (fun j => !rp nb v ((g * 2 + w) * 12 + (ln (g * 2 + w) - 1 - j)) (162 + w) k) (ln (g * 2 + w)) 0 else tk (fun j => rp nb v ((g * 2 + w) * 12 + j) (162 + w) k) (ln (g * 2 + w)) 0
def ctC (nb : Nat → Bool) (v : Nat → UInt64) (ln : Nat → Nat) (g w k : Nat) (b : Bool) : Nat := if b = true then ln (g * 2 + w) - cn (fun j => rp nb v ((g * 2 + w) * 12 + j) (162 + w) k) (ln (g * 2 + w)) else cn (fun j => rp nb v ((g * 2 + w) * 12 + j) (162 + w) k) (ln (g * 2 + w))
def fo (f : Nat → Nat) (k : Nat) : Nat → Int32
  | 0 => -1
  | i + 1 => if f i = k then nI i else fo f k i
def sm (nb : Nat → Bool) (v : Nat → UInt64) (a b : Nat) : Nat → Nat
  | 0 => 2
  | i + 1 => Nat.min (sm nb v a b i) (lk nb v (a * 12 + i) (b * 12 + i))
theorem sm_le (nb : Nat → Bool) (v : Nat → UInt64) (a b : Nat) : ∀ i, sm nb v a b i ≤ 2
  | 0 => Nat.le_refl _
  | i + 1 => Nat.le_trans (Nat.min_le_left _ _) (sm_le nb v a b i)
def saC (nb : Nat → Bool) (v : Nat → UInt64) (ln : Nat → Nat) (g h : Nat) : Nat := if ln (g * 2 + 0) = ln (h * 2 + 0) then sm nb v (g * 2 + 0) (h * 2 + 0) (ln (g * 2 + 0)) else 0
