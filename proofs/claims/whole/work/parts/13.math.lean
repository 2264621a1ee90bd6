/-! sums, greatest ones, divisors -/
def sm (f : Nat → Nat) : Nat → Nat
  | 0 => 0
  | i + 1 => sm f i + f i
/-- the least place of the greatest of the first n -/
def amx (v : Nat → Nat) : Nat → Nat
  | 0 => 0
  | i + 1 => if v (amx v i) < v i then i else amx v i
theorem amx_lt (v : Nat → Nat) : ∀ n, 0 < n → amx v n < n
  | 0, h => absurd h (Nat.lt_irrefl 0)
  | 1, _ => by simp [amx]
  | n + 2, _ => by
    have ih := amx_lt v (n + 1) (by omega)
    rw [amx]
    split <;> omega
theorem amx_yes {v : Nat → Nat} {i : Nat} (h : v (amx v i) < v i) : i = amx v (i + 1) := by rw [amx, if_pos h]
theorem amx_no {v : Nat → Nat} {i : Nat} (h : ¬ v (amx v i) < v i) : amx v i = amx v (i + 1) := by rw [amx, if_neg h]
theorem gcd_next (x y : Nat) : Nat.gcd x y = Nat.gcd y (x % y) := by rw [Nat.gcd_comm x y, Nat.gcd_rec y x, Nat.gcd_comm]
/-- Euclid's pair behind st steps: the first pair, or one whose product has halved each time -/
def gcI (a b st x y : Nat) : Prop := (st = 0 ∧ x = a ∧ y = b) ∨ (1 ≤ st ∧ y < x ∧ x < 2 ^ 36 ∧ x * y * 2 ^ (st - 1) < 2 ^ 72)
theorem gcI_0 (a b : Nat) : gcI a b 0 a b := Or.inl ⟨rfl, rfl, rfl⟩
theorem gcI_next {a b st x y : Nat} (hb : b < 2 ^ 36) (hy : y ≠ 0) (h : gcI a b st x y) : gcI a b (st + 1) y (x % y) := by
  have hm : x % y < y := Nat.mod_lt _ (by omega)
  rcases h with ⟨h0, hxa, hyb⟩ | ⟨h1, h2, h3, h4⟩
  · subst h0 hxa hyb
    refine Or.inr ⟨by omega, hm, hb, ?_⟩
    have : y * (x % y) ≤ y * y := Nat.mul_le_mul_left _ (by omega)
    have h5 : y * y < 2 ^ 36 * 2 ^ 36 := Nat.mul_lt_mul'' hb hb
    simp only [Nat.add_sub_cancel, Nat.pow_zero, Nat.mul_one]
    exact Nat.lt_of_le_of_lt this (by omega)
  · refine Or.inr ⟨by omega, hm, by omega, ?_⟩
    have e : st + 1 - 1 = (st - 1) + 1 := by omega
    rw [e, Nat.pow_succ]
    have h5 : 2 * (x % y) ≤ x := by
      have := Nat.div_add_mod x y
      have hd : 1 ≤ x / y := (Nat.one_le_div_iff (by omega)).mpr (by omega)
      have : y * 1 ≤ y * (x / y) := Nat.mul_le_mul_left _ hd
      omega
    have h6 : y * (x % y) * (2 ^ (st - 1) * 2) ≤ x * y * 2 ^ (st - 1) := by
      have : y * (x % y) * (2 ^ (st - 1) * 2) = (2 * (x % y)) * y * 2 ^ (st - 1) := by
        rw [Nat.mul_comm (2 ^ (st - 1)) 2, ← Nat.mul_assoc, Nat.mul_comm y (x % y), Nat.mul_right_comm _ y 2, Nat.mul_comm (x % y) 2]
      rw [this]
      exact Nat.mul_le_mul_right _ (Nat.mul_le_mul_right _ h5)
    omega
theorem gcI_end {a b x y : Nat} (h : gcI a b 100 x y) : y = 0 := by
  rcases h with ⟨h0, -⟩ | ⟨-, h2, -, h4⟩
  · omega
  · rcases Nat.eq_zero_or_pos y with e | e
    · exact e
    · exfalso
      have h5 : 1 * 2 ^ 99 ≤ x * y * 2 ^ 99 := Nat.mul_le_mul_right _ (Nat.mul_pos (by omega) e)
      have h6 : x * y * 2 ^ (100 - 1) < 2 ^ 72 := h4
      have h7 : (2 : Nat) ^ 72 ≤ 1 * 2 ^ 99 := by decide
      exact absurd (Nat.lt_of_le_of_lt h5 h6) (by omega)
theorem gcI_x {a b st x y : Nat} (ha : a < 2 ^ 62) (h : gcI a b st x y) : x < 2 ^ 62 := by
  rcases h with ⟨-, rfl, -⟩ | ⟨-, -, h, -⟩ <;> omega
theorem gcI_y {a b st x y : Nat} (hb : b < 2 ^ 36) (h : gcI a b st x y) : y < 2 ^ 36 := by
  rcases h with ⟨-, -, rfl⟩ | ⟨-, h2, h, -⟩ <;> omega
/-- in lowest terms: which = 0 above, else below -/
def lowT (a b w : Nat) : Nat := (if w = 0 then a else b) / Nat.gcd a b
/-- the divisor of the first n -/
def gcs (f : Nat → Nat) : Nat → Nat
  | 0 => 0
  | i + 1 => Nat.gcd (gcs f i) (f i)
/-- the next seed -/
def nxs (x : Nat) : Nat := (1103515245 * x + 12345) % 2147483648
theorem nxs_lt (x : Nat) : nxs x < 2147483648 := Nat.mod_lt _ (by decide)
/-- the digest's step -/
def fo (h v : Int64) : Int64 := lN 31 * h + v
/-- a function but for one place -/
def fu (f : Nat → Nat) (j v : Nat) : Nat → Nat := fun i => if i = j then v else f i
theorem fu_s (f : Nat → Nat) (j v : Nat) : fu f j v j = v := if_pos rfl
theorem fu_n {f : Nat → Nat} {j v i : Nat} (h : i ≠ j) : fu f j v i = f i := if_neg h
theorem upN (f : Nat → Nat) (j v : Nat) : upd (fun i => nI (f i)) j (nI v) = fun i => nI (fu f j v i) := by
  funext i
  unfold upd fu
  split <;> rfl
theorem upL (f : Nat → Nat) (j v : Nat) : vp_updL (fun i => lN (f i)) j (lN v) = fun i => lN (fu f j v i) := by
  funext i
  unfold vp_updL fu
  split <;> rfl
/-- one of a row of numbers, of functions, but for one -/
def fg (g : Nat → Nat) (k v : Nat) : Nat → Nat := fun a => cond (Nat.beq a k) v (g a)
def fq (q : Nat → Nat → Nat) (k : Nat) (f : Nat → Nat) : Nat → Nat → Nat := fun a => cond (Nat.beq a k) f (q a)
theorem gcs_lt {f : Nat → Nat} {B : Nat} (hB : 0 < B) : ∀ n, (∀ i, i < n → f i < B) → gcs f n < B
  | 0, _ => hB
  | n + 1, h => by
    have ih := gcs_lt hB n (fun i hi => h i (by omega))
    have hn := h n (by omega)
    rw [gcs]
    rcases Nat.eq_zero_or_pos (f n) with e | e
    · rw [e, Nat.gcd_zero_right]
      exact ih
    · exact Nat.lt_of_le_of_lt (Nat.gcd_le_right _ e) hn
/-- a row filled up to i -/
def ff (new old : Nat → Nat) (i : Nat) : Nat → Nat := fun k => if k < i then new k else old k
theorem ff_0 (new old : Nat → Nat) : ff new old 0 = old := by
  funext k
  unfold ff
  rw [if_neg (by omega)]
theorem ff_s (new old : Nat → Nat) (i : Nat) : fu (ff new old i) i (new i) = ff new old (i + 1) := by
  funext k
  unfold fu ff
  by_cases h : k = i
  · subst h
    rw [if_pos rfl, if_pos (by omega)]
  · rw [if_neg h]
    by_cases h2 : k < i
    · rw [if_pos h2, if_pos (by omega)]
    · rw [if_neg h2, if_neg (by omega)]
theorem ff_s0 (c : Nat) (old : Nat → Nat) (i : Nat) : fu (ff (fun _ => c) old i) i c = ff (fun _ => c) old (i + 1) := ff_s (fun _ => c) old i
theorem ff_in {new old : Nat → Nat} {i k : Nat} (h : k < i) : ff new old i k = new k := if_pos h
theorem ff_out {new old : Nat → Nat} {i k : Nat} (h : i ≤ k) : ff new old i k = old k := if_neg (by omega)
def fr (new old : Nat → Int32) (i : Nat) : Nat → Int32 := fun k => if k < i then new k else old k
theorem fr_0 (new old : Nat → Int32) : fr new old 0 = old := by
  funext k
  unfold fr
  rw [if_neg (by omega)]
theorem fr_s (new old : Nat → Int32) (i : Nat) : upd (fr new old i) i (new i) = fr new old (i + 1) := by
  funext k
  unfold upd fr
  by_cases h : k = i
  · subst h
    rw [if_pos rfl, if_pos (by omega)]
  · rw [if_neg h]
    by_cases h2 : k < i
    · rw [if_pos h2, if_pos (by omega)]
    · rw [if_neg h2, if_neg (by omega)]
theorem fr_s0 (c : Int32) (old : Nat → Int32) (i : Nat) : upd (fr (fun _ => c) old i) i c = fr (fun _ => c) old (i + 1) := fr_s (fun _ => c) old i
