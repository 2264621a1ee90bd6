/-! THE NUMBERS: what the document says, over naturals -/
/-- what one of a kind with a fear dreads -/
def dn (k f : Nat) (did : Bool) : Nat := if k = 1 then f else if k = 2 then f + 3 else if k = 3 then f / 2 + (if did then 3 else 0) else if k = 4 then (if did then 0 else f) else f + (if did then 3 else 0)
/-- tenths, by what he dreads, how dry, his butter -/
def tn (d y s : Nat) : Nat := min 10 (d + y - (s + 5))
theorem tn_le (d y s : Nat) : tn d y s ≤ 10 := Nat.min_le_left _ _
theorem dn_le {k f : Nat} (did : Bool) (hf : f ≤ 9) : dn k f did ≤ 12 := by
  unfold dn
  cases did <;> simp only [if_true, if_false, Bool.false_eq_true] <;> (repeat' split) <;> omega
/-- which of the classes a kind is -/
def pk (k : Nat) : Nat := if k = 1 then 0 else if k = 2 then 6 else if k = 3 then 3 else if k = 4 then 5 else 2
theorem k_cases {k : Nat} (h : k < 5) : k = 0 ∨ k = 1 ∨ k = 2 ∨ k = 3 ∨ k = 4 := by omega
/-- the clamp of the class: max 0 (min 10 v) -/
theorem tn_class {d y s : Nat} (hd : d ≤ 100) (hy : y ≤ 100) (hs : s ≤ 100) : (if nI 0 < (if nI (d + y) - nI s - nI 5 < nI 10 then nI (d + y) - nI s - nI 5 else nI 10) then (if nI (d + y) - nI s - nI 5 < nI 10 then nI (d + y) - nI s - nI 5 else nI 10) else nI 0) = nI (tn d y s) := by
  have e : (nI (d + y) - nI s - nI 5).toInt = (d : Int) + y - s - 5 := by
    have h1 : (nI (d + y) - nI s).toInt = ((d + y : Nat) : Int) - s := pk_sub_toInt (by omega) (by omega)
    rw [Int32.toInt_sub, h1, nI_toInt (by decide)]
    rw [Int.bmod_eq_of_le] <;> omega
  have e0 : (nI 0).toInt = 0 := rfl
  have e10 : (nI 10).toInt = 10 := rfl
  have et : (nI (tn d y s)).toInt = (tn d y s : Int) := nI_toInt (by have := tn_le d y s; omega)
  apply Int32.toInt_inj.mp
  rw [et]
  unfold tn
  by_cases h : nI (d + y) - nI s - nI 5 < nI 10
  · rw [if_pos h]
    rw [Int32.lt_iff_toInt_lt, e, e10] at h
    by_cases h2 : nI 0 < nI (d + y) - nI s - nI 5
    · rw [if_pos h2, e]
      rw [Int32.lt_iff_toInt_lt, e, e0] at h2
      omega
    · rw [if_neg h2, e0]
      rw [Int32.lt_iff_toInt_lt, e, e0] at h2
      omega
  · rw [if_neg h]
    rw [Int32.lt_iff_toInt_lt, e, e10] at h
    rw [if_pos (by decide), e10]
    omega
