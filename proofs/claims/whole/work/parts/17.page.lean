/-! the page -/
/-- the letter at a place, 0 behind the last -/
def cd (pg : Nat → Nat) (n i : Nat) : Nat := if i < n then pg i else 0
theorem cd_in {pg : Nat → Nat} {n i : Nat} (h : i < n) : cd pg n i = pg i := if_pos h
theorem cd_out {pg : Nat → Nat} {n i : Nat} (h : n ≤ i) : cd pg n i = 0 := if_neg (by omega)
theorem cd_le {pg : Nat → Nat} {n : Nat} (h : ∀ i, i < n → 32 ≤ pg i ∧ pg i ≤ 126) (i : Nat) : cd pg n i ≤ 126 := by
  unfold cd
  split
  · rename_i hi
    exact (h i hi).2
  · omega
/-- the kind that a letter tells -/
def kI (c : Nat) : Int32 := if c = 112 then nI 0 else if c = 104 then nI 1 else if c = 119 then nI 2 else if c = 114 then nI 3 else if c = 116 then nI 4 else -1
def kZ (c : Nat) : Int := if c = 112 then 0 else if c = 104 then 1 else if c = 119 then 2 else if c = 114 then 3 else if c = 116 then 4 else -1
def kOk (c : Nat) : Bool := decide (c = 112) || decide (c = 104) || decide (c = 119) || decide (c = 114) || decide (c = 116)
def kN (c : Nat) : Nat := if c = 112 then 0 else if c = 104 then 1 else if c = 119 then 2 else if c = 114 then 3 else 4
theorem kI_int (c : Nat) : (kI c).toInt = kZ c := by
  unfold kI kZ
  repeat' split
  all_goals rfl
theorem kZ_t {c : Nat} (h : kZ c < 0) : kOk c = false := by
  unfold kZ at h
  unfold kOk
  repeat' split at h
  all_goals first | omega | simp [*]
theorem kZ_f {c : Nat} (h : 0 ≤ kZ c) : kOk c = true := by
  unfold kZ at h
  unfold kOk
  repeat' split at h
  all_goals first | omega | simp [*]
theorem kI_ok {c : Nat} (h : kOk c = true) : kI c = nI (kN c) := by
  unfold kOk at h
  simp only [Bool.or_eq_true, decide_eq_true_iff] at h
  unfold kI kN
  rcases h with (((h | h) | h) | h) | h <;> subst h <;> rfl
theorem kI_no {c : Nat} (h : kOk c = false) : kI c = -1 := by
  unfold kOk at h
  simp only [Bool.or_eq_false_iff, decide_eq_false_iff_not] at h
  unfold kI
  rw [if_neg h.1.1.1.1, if_neg h.1.1.1.2, if_neg h.1.1.2, if_neg h.1.2, if_neg h.2]
theorem kN_lt (c : Nat) : kN c < 5 := by
  unfold kN
  repeat' split
  all_goals omega
theorem kOk_0 : kOk 0 = false := rfl
/-- a digit, l at least -/
def dgt (c l : Nat) : Bool := decide (48 + l ≤ c ∧ c ≤ 57)
/-- what may stand behind so many accused -/
def bh (c a : Nat) : Bool := (decide (c = 44) && decide (a < 4)) || (decide (c = 59) && decide (2 ≤ a))
def ftA (pg : Nat → Nat) (n i : Nat) : Bool := if i % 4 = 0 then kOk (cd pg n i) else if i % 4 = 1 then dgt (cd pg n i) 0 else if i % 4 = 2 then dgt (cd pg n i) 1 else bh (cd pg n i) (i / 4 + 1)
/-- where the ';' stood, of the first i places -/
def fE (pg : Nat → Nat) (n : Nat) : Nat → Option Nat
  | 0 => none
  | i + 1 => if cd pg n i = 59 then some i else fE pg n i
theorem fE_lt {pg : Nat → Nat} {n e : Nat} : ∀ {i : Nat}, fE pg n i = some e → e < i
  | 0, h => by cases h
  | i + 1, h => by
    unfold fE at h
    split at h
    · have := Option.some.inj h
      omega
    · have := fE_lt h
      omega
def fit (pg : Nat → Nat) (n i : Nat) : Bool := match fE pg n i with
  | none => ftA pg n i
  | some e => decide (i = e + 1) && dgt (cd pg n i) 1
/-- the first place that does not fit: from i on, m more to look at -/
def fst (b : Nat → Bool) : Nat → Nat → Nat
  | 0, i => i
  | m + 1, i => if b i then fst b m (i + 1) else i
def flt (pg : Nat → Nat) (n : Nat) : Nat := fst (fit pg n) n 0
theorem fst_hit {b : Nat → Bool} {n i : Nat} (h : i < n) (hb : b i = false) : fst b (n - i) i = i := by
  rw [show n - i = (n - (i + 1)) + 1 by omega, fst, if_neg (by rw [hb]; decide)]
theorem fst_go {b : Nat → Bool} {n i : Nat} (h : i < n) (hb : b i = true) : fst b (n - i) i = fst b (n - (i + 1)) (i + 1) := by
  rw [show n - i = (n - (i + 1)) + 1 by omega, fst, if_pos hb]
def whl (pg : Nat → Nat) (n : Nat) : Bool := decide (flt pg n = n) && decide (2 ≤ n) && decide (cd pg n (n - 2) = 59)
def eI (o : Option Nat) : Int32 := match o with
  | none => -1
  | some e => nI e
theorem b128 : ∀ n, n < 128 → (nI n).toInt8.toInt32 = nI n ∧ ((nI n).toUInt32 % 65536).toInt32 = nI n := by decide
theorem fst_le (b : Nat → Bool) : ∀ m i, fst b m i ≤ i + m
  | 0, i => by simp [fst]
  | m + 1, i => by
    have := fst_le b m (i + 1)
    rw [fst]
    split <;> omega
theorem flt_le (pg : Nat → Nat) (n : Nat) : flt pg n ≤ n := by
  have := fst_le (fit pg n) n 0
  unfold flt
  omega
