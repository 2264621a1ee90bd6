/-! the reference: its scratch, and what always holds of its own numbers -/
abbrev MSc : Type := Bool × Nat × Int32 × Int64 × Int64 × (Nat → Nat)
abbrev MS : Type := (Nat → Nat) × (Nat → Nat → Nat) × Bool × MSc
def YI (g : Nat → Nat) (q : Nat → Nat → Nat) : Prop :=
  g 0 ≤ 4 ∧ (g 0 = 0 ∨ 2 ≤ g 0) ∧ (∀ j, j < g 0 → q 0 j < 5 ∧ q 1 j ≤ 9 ∧ q 3 j ≤ 9 ∧ q 4 j ≤ 9000000) ∧ (0 < g 0 → 0 < sm (q 4) (g 0)) ∧ g 1 ≤ 9 ∧ g 2 ≤ 6 ∧ g 3 ≤ 18 ∧ g 5 ≤ 20 ∧ g 9 ≤ 6 ∧ (∀ i, i < g 3 → 32 ≤ q 7 i ∧ q 7 i ≤ 126) ∧ (∀ k, k < g 2 → q 12 k < 4 ∧ q 13 k ≤ 1 ∧ q 14 k ≤ 1 ∧ q 15 k ≤ 9)
section YIA
variable {g : Nat → Nat} {q : Nat → Nat → Nat}
theorem YI.n (h : YI g q) : g 0 ≤ 4 := h.1
theorem YI.n2 (h : YI g q) : g 0 = 0 ∨ 2 ≤ g 0 := h.2.1
theorem YI.per (h : YI g q) : ∀ j, j < g 0 → q 0 j < 5 ∧ q 1 j ≤ 9 ∧ q 3 j ≤ 9 ∧ q 4 j ≤ 9000000 := h.2.2.1
theorem YI.pos (h : YI g q) : 0 < g 0 → 0 < sm (q 4) (g 0) := h.2.2.2.1
theorem YI.dry (h : YI g q) : g 1 ≤ 9 := h.2.2.2.2.1
theorem YI.hd (h : YI g q) : g 2 ≤ 6 := h.2.2.2.2.2.1
theorem YI.pl (h : YI g q) : g 3 ≤ 18 := h.2.2.2.2.2.2.1
theorem YI.ri (h : YI g q) : g 5 ≤ 20 := h.2.2.2.2.2.2.2.1
theorem YI.at (h : YI g q) : g 9 ≤ 6 := h.2.2.2.2.2.2.2.2.1
theorem YI.pg (h : YI g q) : ∀ i, i < g 3 → 32 ≤ q 7 i ∧ q 7 i ≤ 126 := h.2.2.2.2.2.2.2.2.2.1
theorem YI.hr (h : YI g q) : ∀ k, k < g 2 → q 12 k < 4 ∧ q 13 k ≤ 1 ∧ q 14 k ≤ 1 ∧ q 15 k ≤ 9 := h.2.2.2.2.2.2.2.2.2.2
theorem YI.sml (h : YI g q) : sm (q 4) (g 0) ≤ 36000000 := by
  have := sm_le (f := q 4) (B := 9000000) (g 0) (fun i hi => (h.per i hi).2.2.2)
  have := h.n
  have : g 0 * 9000000 ≤ 4 * 9000000 := Nat.mul_le_mul_right _ this
  omega
end YIA
theorem tn_int {d y t : Nat} (hd : d ≤ 100) (hy : y ≤ 100) (ht : t ≤ 100) : (nI (d + y) - nI t - nI 5).toInt = (d : Int) + y - t - 5 := by
  have h1 : (nI (d + y) - nI t).toInt = ((d + y : Nat) : Int) - t := pk_sub_toInt (by omega) (by omega)
  rw [Int32.toInt_sub, h1, nI_toInt (by decide)]
  rw [Int.bmod_eq_of_le] <;> omega
theorem tn_mid {d y t : Nat} (hd : d ≤ 100) (hy : y ≤ 100) (ht : t ≤ 100) (h0 : 0 ≤ (d : Int) + y - t - 5) (h1 : (d : Int) + y - t - 5 ≤ 10) : nI (d + y) - nI t - nI 5 = nI (tn d y t) := by
  apply Int32.toInt_inj.mp
  rw [tn_int hd hy ht, nI_toInt (by have := tn_le d y t; omega)]
  unfold tn
  omega
/-- what is heard lets one have had so much butter -/
def cdB (q : Nat → Nat → Nat) (j b : Nat) : Nat → Bool
  | 0 => true
  | k + 1 => cdB q j b k && (decide (q 12 k ≠ j) || decide (tn (dn (q 0 j) (q 1 j) (decide (q 13 k = 1))) (q 15 k) b ≠ if q 14 k = 1 then 0 else 10))
/-- one accused as the reference reads him -/
def rdO (pg : Nat → Nat) (n k : Nat) : Nat := if kOk (cd pg n k) then (if dgt (cd pg n (k + 1)) 0 then (if dgt (cd pg n (k + 2)) 1 then k + 3 else k + 2) else k + 1) else k
theorem bb_or {b : Nat → Bool} {i : Nat} (hb : b i = false) : bbF b i ||| nI 0 = bbF b (i + 1) := by
  rw [bbF, if_neg (by rw [hb]; decide)]
  apply Int32.toBitVec_inj.mp
  simp [nI]
