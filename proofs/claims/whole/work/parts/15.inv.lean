/-! what always holds of the numbers -/
def XK (g : Nat → Nat) (q : Nat → Nat → Nat) : Prop := (∀ j, q 8 j ≤ 9) ∧ (∀ j, q 9 j ≤ 9 * 10 ^ g 10) ∧ (∀ j, g 0 ≤ j → j < 4 → q 8 j = 0 ∧ q 9 j = 0 ∧ q 10 j = 0 ∧ q 11 j = 0) ∧ 0 < sm (q 9) (g 0) ∧ g 7 ≤ 9 ∧ g 8 ≤ 6 ∧ g 10 ≤ 6 ∧ g 10 = sm (q 10) 4
def XI (g : Nat → Nat) (q : Nat → Nat → Nat) : Prop :=
  g 0 ≤ 4 ∧ (g 0 = 0 ∨ 2 ≤ g 0) ∧ (∀ j, j < g 0 → q 0 j < 5 ∧ q 1 j ≤ 9 ∧ 1 ≤ q 2 j ∧ q 2 j ≤ 9) ∧ (∀ j, q 3 j ≤ 9) ∧ (∀ j, q 4 j ≤ 9 * 10 ^ g 9) ∧ (∀ j, g 0 ≤ j → j < 4 → q 3 j = 0 ∧ q 4 j = 0 ∧ q 5 j = 0 ∧ q 6 j = 0) ∧ (0 < g 0 → 0 < sm (q 4) (g 0)) ∧ g 1 ≤ 9 ∧ g 2 ≤ 6 ∧ g 3 ≤ 18 ∧ g 5 ≤ 20 ∧ g 9 ≤ 6 ∧ g 9 = sm (q 5) 4 ∧ (∀ i, i < g 3 → 32 ≤ q 7 i ∧ q 7 i ≤ 126) ∧ g 6 ≤ g 4 ∧ (g 6 = g 4 → 0 < g 6 → XK g q) ∧ (0 < g 0 → 0 < g 4)
section XIA
variable {g : Nat → Nat} {q : Nat → Nat → Nat}
theorem XI.n (h : XI g q) : g 0 ≤ 4 := h.1
theorem XI.n2 (h : XI g q) : g 0 = 0 ∨ 2 ≤ g 0 := h.2.1
theorem XI.per (h : XI g q) : ∀ j, j < g 0 → q 0 j < 5 ∧ q 1 j ≤ 9 ∧ 1 ≤ q 2 j ∧ q 2 j ≤ 9 := h.2.2.1
theorem XI.bu (h : XI g q) : ∀ j, q 3 j ≤ 9 := h.2.2.2.1
theorem XI.w (h : XI g q) : ∀ j, q 4 j ≤ 9 * 10 ^ g 9 := h.2.2.2.2.1
theorem XI.z (h : XI g q) : ∀ j, g 0 ≤ j → j < 4 → q 3 j = 0 ∧ q 4 j = 0 ∧ q 5 j = 0 ∧ q 6 j = 0 := h.2.2.2.2.2.1
theorem XI.pos (h : XI g q) : 0 < g 0 → 0 < sm (q 4) (g 0) := h.2.2.2.2.2.2.1
theorem XI.dry (h : XI g q) : g 1 ≤ 9 := h.2.2.2.2.2.2.2.1
theorem XI.hd (h : XI g q) : g 2 ≤ 6 := h.2.2.2.2.2.2.2.2.1
theorem XI.pl (h : XI g q) : g 3 ≤ 18 := h.2.2.2.2.2.2.2.2.2.1
theorem XI.ri (h : XI g q) : g 5 ≤ 20 := h.2.2.2.2.2.2.2.2.2.2.1
theorem XI.at (h : XI g q) : g 9 ≤ 6 := h.2.2.2.2.2.2.2.2.2.2.2.1
theorem XI.ats (h : XI g q) : g 9 = sm (q 5) 4 := h.2.2.2.2.2.2.2.2.2.2.2.2.1
theorem XI.pg (h : XI g q) : ∀ i, i < g 3 → 32 ≤ q 7 i ∧ q 7 i ≤ 126 := h.2.2.2.2.2.2.2.2.2.2.2.2.2.1
theorem XI.kc (h : XI g q) : g 6 ≤ g 4 := h.2.2.2.2.2.2.2.2.2.2.2.2.2.2.1
theorem XI.k (h : XI g q) : g 6 = g 4 → 0 < g 6 → XK g q := h.2.2.2.2.2.2.2.2.2.2.2.2.2.2.2.1
theorem XI.c (h : XI g q) : 0 < g 0 → 0 < g 4 := h.2.2.2.2.2.2.2.2.2.2.2.2.2.2.2.2
theorem p10_6 {k : Nat} (h : k ≤ 6) : 9 * 10 ^ k ≤ 9000000 := by
  have : 10 ^ k ≤ 10 ^ 6 := Nat.pow_le_pow_right (by decide) h
  omega
theorem XI.w6 (h : XI g q) (j : Nat) : q 4 j ≤ 9000000 := Nat.le_trans (h.w j) (p10_6 h.at)
theorem XI.hwb (h : XI g q) : ∀ i, i < 4 → q 4 i < 2 ^ 62 := fun i _ => Nat.lt_of_le_of_lt (h.w6 i) (by decide)
theorem XI.sm4 (h : XI g q) : sm (q 4) 4 = sm (q 4) (g 0) := sm_4 h.n (fun i h1 h2 => (h.z i h1 h2).2.1)
theorem XI.amx4 (h : XI g q) : amx (q 4) 4 = amx (q 4) (g 0) := amx_4 h.n (fun i h1 h2 => (h.z i h1 h2).2.1)
theorem XI.sml (h : XI g q) : sm (q 4) (g 0) ≤ 36000000 := by
  have := sm_le (f := q 4) (B := 9000000) (g 0) (fun i _ => h.w6 i)
  have := h.n
  have : g 0 * 9000000 ≤ 4 * 9000000 := Nat.mul_le_mul_right _ this
  omega
end XIA
/-- the persons: where they lie, and what they are -/
def XP (g : Nat → Nat) (q : Nat → Nat → Nat) (pf : Nat → Option Nat) (pa : Nat → Nat) (pz : va_W) : Prop := ∀ j, j < g 0 → pf j = some (pa j) ∧ pz[j]? = some (zO (pa j) (pk (q 0 j)) [.int (nI (q 1 j)), .int (nI (q 2 j))])
theorem ix_2 {n : Nat} {x : Int32} (h : ix n x = none) : x.toInt < 0 ∨ (n : Int) ≤ x.toInt := ix_none h
