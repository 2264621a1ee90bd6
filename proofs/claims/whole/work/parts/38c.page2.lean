/-! a page that is a court -/
theorem fst_all {b : Nat → Bool} : ∀ m i, fst b m i = i + m → ∀ k, i ≤ k → k < i + m → b k = true
  | 0, i, _, k, h1, h2 => by omega
  | m + 1, i, h, k, h1, h2 => by
    rw [fst] at h
    by_cases hb : b i = true
    · rw [if_pos hb] at h
      rcases Nat.eq_or_lt_of_le h1 with e | e
      · rw [← e]; exact hb
      · exact fst_all m (i + 1) (by omega) k (by omega) (by omega)
    · rw [if_neg hb] at h
      omega
theorem fE_some {pg : Nat → Nat} {n i : Nat} (h : fE pg n i ≠ none) : fE pg n (i + 1) ≠ none := by
  rw [fE]
  split
  · exact fun h => by cases h
  · exact h
theorem fE_up {pg : Nat → Nat} {n i : Nat} : ∀ k, fE pg n i ≠ none → fE pg n (i + k) ≠ none
  | 0, h => h
  | k + 1, h => fE_some (fE_up k h)
theorem fE_down {pg : Nat → Nat} {n i k : Nat} (h : fE pg n k = none) (hi : i ≤ k) : fE pg n i = none := by
  apply Decidable.byContradiction
  intro c
  have := fE_up (k - i) c
  rw [show i + (k - i) = k by omega] at this
  exact this h
def kdC (pg : Nat → Nat) (n j : Nat) : Nat := kN (cd pg n (j * 4))
def feC (pg : Nat → Nat) (n j : Nat) : Nat := cd pg n (j * 4 + 1) - 48
def odC (pg : Nat → Nat) (n j : Nat) : Nat := cd pg n (j * 4 + 2) - 48
/-- of a page that is a court: how many accused, and what stands where -/
theorem whl_spec {pg : Nat → Nat} {n : Nat} (hn : n ≤ 18) (h : whl pg n = true) : ∃ m, 2 ≤ m ∧ m ≤ 4 ∧ n = 4 * m + 1 ∧ min 4 ((n - 1) / 4) = m ∧ (∀ j, j < m → kOk (cd pg n (j * 4)) = true ∧ 48 ≤ cd pg n (j * 4 + 1) ∧ cd pg n (j * 4 + 1) ≤ 57 ∧ 49 ≤ cd pg n (j * 4 + 2) ∧ cd pg n (j * 4 + 2) ≤ 57) ∧ 49 ≤ cd pg n (n - 1) ∧ cd pg n (n - 1) ≤ 57 ∧ (∀ j, j + 1 < m → cd pg n (j * 4 + 3) = 44) := by
  unfold whl at h
  simp only [Bool.and_eq_true, decide_eq_true_iff] at h
  obtain ⟨⟨hf, h2⟩, hc⟩ := h
  have hall : ∀ k, k < n → fit pg n k = true := fun k hk => fst_all n 0 (by unfold flt at hf; omega) k (by omega) (by omega)
  have hE : fE pg n (n - 2) = none := by
    cases he : fE pg n (n - 2) with
    | none => rfl
    | some e =>
      have := hall (n - 2) (by omega)
      unfold fit at this
      rw [he, hc] at this
      simp [dgt] at this
  have hEi : ∀ i, i ≤ n - 2 → fE pg n i = none := fun i hi => fE_down hE hi
  have hA : ∀ i, i ≤ n - 2 → ftA pg n i = true := fun i hi => by
    have := hall i (by omega)
    unfold fit at this
    rw [hEi i hi] at this
    exact this
  have h59 := hA (n - 2) (Nat.le_refl _)
  have h3 : (n - 2) % 4 = 3 ∧ 2 ≤ (n - 2) / 4 + 1 := by
    unfold ftA at h59
    rw [hc] at h59
    by_cases c0 : (n - 2) % 4 = 0
    · rw [if_pos c0] at h59; simp [kOk] at h59
    · rw [if_neg c0] at h59
      by_cases c1 : (n - 2) % 4 = 1
      · rw [if_pos c1] at h59; simp [dgt] at h59
      · rw [if_neg c1] at h59
        by_cases c2 : (n - 2) % 4 = 2
        · rw [if_pos c2] at h59; simp [dgt] at h59
        · rw [if_neg c2] at h59
          simp [bh] at h59
          omega
  have hd : dgt (cd pg n (n - 1)) 1 = true := by
    have := hall (n - 1) (by omega)
    unfold fit at this
    have e : fE pg n (n - 1) = some (n - 2) := by
      rw [show n - 1 = (n - 2) + 1 by omega, fE, if_pos hc]
    rw [e] at this
    simp only [Bool.and_eq_true] at this
    exact this.2
  unfold dgt at hd
  rw [decide_eq_true_iff] at hd
  refine ⟨(n - 2) / 4 + 1, h3.2, by omega, by omega, by omega, fun j hj => ?_, by omega, by omega, fun j hj => ?_⟩
  · have a0 := hA (j * 4) (by omega)
    have a1 := hA (j * 4 + 1) (by omega)
    have a2 := hA (j * 4 + 2) (by omega)
    unfold ftA at a0 a1 a2
    rw [if_pos (by omega)] at a0
    rw [if_neg (by omega), if_pos (by omega)] at a1
    rw [if_neg (by omega), if_neg (by omega), if_pos (by omega)] at a2
    unfold dgt at a1 a2
    rw [decide_eq_true_iff] at a1 a2
    exact ⟨a0, by omega, by omega, by omega, by omega⟩
  · have a3 := hA (j * 4 + 3) (by omega)
    unfold ftA at a3
    rw [if_neg (by omega), if_neg (by omega), if_neg (by omega)] at a3
    by_cases e : cd pg n (j * 4 + 3) = 59
    · exfalso
      have hs : fE pg n (j * 4 + 3 + 1) = some (j * 4 + 3) := by rw [fE, if_pos e]
      rw [hEi (j * 4 + 3 + 1) (by omega)] at hs
      cases hs
    · unfold bh at a3
      simp [e] at a3
      exact a3.1
