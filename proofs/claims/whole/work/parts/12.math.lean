/-! THE NUMBERS: what the document says, over naturals -/
/-- what one of a kind with a fear dreads -/
def dn (k f : Nat) (did : Bool) : Nat := if k = 1 then f else if k = 2 then f + 3 else if k = 3 then f / 2 + (if did then 3 else 0) else if k = 4 then (if did then 0 else f) else f + (if did then 3 else 0)
/-- tenths, by what he dreads, how dry, his butter -/
def tn (d y s : Nat) : Nat := min 10 (d + y - (s + 5))
theorem tn_le (d y s : Nat) : tn d y s ≤ 10 := Nat.min_le_left _ _
theorem dn_le {k f : Nat} (did : Bool) (hf : f ≤ 9) : dn k f did ≤ 12 := by
  unfold dn
  cases did <;> simp only [if_true, if_false, Bool.false_eq_true] <;> (repeat' split) <;> omega
/-- which of the classes a kind is -/
def pk (k : Nat) : Nat := if k = 1 then 0 else if k = 2 then 6 else if k = 3 then 3 else if k = 4 then 5 else 2
theorem k_cases {k : Nat} (h : k < 5) : k = 0 ∨ k = 1 ∨ k = 2 ∨ k = 3 ∨ k = 4 := by omega
/-- the clamp of the class: max 0 (min 10 v) -/
theorem tn_class {d y s : Nat} (hd : d ≤ 100) (hy : y ≤ 100) (hs : s ≤ 100) : (if nI 0 < (if nI (d + y) - nI s - nI 5 < nI 10 then nI (d + y) - nI s - nI 5 else nI 10) then (if nI (d + y) - nI s - nI 5 < nI 10 then nI (d + y) - nI s - nI 5 else nI 10) else nI 0) = nI (tn d y s) := by
  have e : (nI (d + y) - nI s - nI 5).toInt = (d : Int) + y - s - 5 := by
    have h1 : (nI (d + y) - nI s).toInt = ((d + y : Nat) : Int) - s := pk_sub_toInt (by omega) (by omega)
    rw [Int32.toInt_sub, h1, nI_toInt (by decide)]
    rw [Int.bmod_eq_of_le] <;> omega
  have e0 : (nI 0).toInt = 0 := rfl
  have e10 : (nI 10).toInt = 10 := rfl
  have et : (nI (tn d y s)).toInt = (tn d y s : Int) := nI_toInt (by have := tn_le d y s; omega)
  apply Int32.toInt_inj.mp
  rw [et]
  unfold tn
  by_cases h : nI (d + y) - nI s - nI 5 < nI 10
  · rw [if_pos h]
    rw [Int32.lt_iff_toInt_lt, e, e10] at h
    by_cases h2 : nI 0 < nI (d + y) - nI s - nI 5
    · rw [if_pos h2, e]
      rw [Int32.lt_iff_toInt_lt, e, e0] at h2
      omega
    · rw [if_neg h2, e0]
      rw [Int32.lt_iff_toInt_lt, e, e0] at h2
      omega
  · rw [if_neg h]
    rw [Int32.lt_iff_toInt_lt, e, e10] at h
    rw [if_pos (by decide), e10]
    omega
/-- the least butter by which one can't choke: from t on, m more to look at -/
def ndB (k f y t : Nat) : Bool := decide (tn (dn k f true) y t = 0) && decide (tn (dn k f false) y t = 0)
def ndF (b : Nat → Bool) : Nat → Nat → Int32
  | 0, _ => -1
  | m + 1, t => if b t then nI t else ndF b m (t + 1)
def need (k f y : Nat) : Int32 := ndF (ndB k f y) 10 0
theorem ndF_hit {b : Nat → Bool} {i : Nat} (h : i < 10) (hb : b i = true) : ndF b (10 - i) i = nI i := by
  rw [show 10 - i = (9 - i) + 1 by omega, ndF, if_pos hb]
theorem ndF_miss {b : Nat → Bool} {i : Nat} (h : i < 10) (hb : b i = false) : ndF b (10 - i) i = ndF b (10 - (i + 1)) (i + 1) := by
  rw [show 10 - i = (10 - (i + 1)) + 1 by omega, ndF, if_neg (by rw [hb]; decide)]
/-- butter that could be: bits -/
def bbF (b : Nat → Bool) : Nat → Int32
  | 0 => nI 0
  | i + 1 => if b i then bbF b i ||| (nI 1 <<< (nI i &&& 31)) else bbF b i
def okB (k f : Nat) (did ch : Bool) (y t : Nat) : Bool := if ch then decide (0 < tn (dn k f did) y t) else decide (tn (dn k f did) y t < 10)
theorem bbF_yes {b : Nat → Bool} {i : Nat} (hb : b i = true) : bbF b i ||| (nI 1 <<< (nI i &&& 31)) = bbF b (i + 1) := by rw [bbF, if_pos hb]
theorem bbF_no {b : Nat → Bool} {i : Nat} (hb : b i = false) : bbF b i = bbF b (i + 1) := by rw [bbF, if_neg (by rw [hb]; decide)]
