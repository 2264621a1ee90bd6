/-! the best so far, as the machine holds it: -1, or a number -/
def bZ (f : Nat → Nat) (i : Nat) : Int := if i = 0 then -1 else (mxn f i : Int)
def bL (f : Nat → Nat) : Nat → Int64
  | 0 => -1
  | i + 1 => lN (mxn f (i + 1))
def bF (f : Nat → Nat) : Nat → Int32
  | 0 => -1
  | i + 1 => nI (amx f (i + 1))
def bD (f : Nat → Nat) : Nat → Int32
  | 0 => nI 0
  | i + 1 => nI (amx f (i + 1) + 1)
theorem bL_int {f : Nat → Nat} {i : Nat} (h : mxn f i < 2 ^ 62) : (bL f i).toInt = bZ f i := by
  cases i with
  | zero => rfl
  | succ i =>
    show (lN (mxn f (i + 1))).toInt = bZ f (i + 1)
    unfold bZ
    rw [if_neg (by omega), pk_lT (by omega)]
theorem bZ_amx {f : Nat → Nat} {i : Nat} (h0 : 0 < i) : bZ f i = (f (amx f i) : Int) := by
  unfold bZ
  rw [if_neg (by omega), mxn_amx f i h0]
theorem amx_s0 (f : Nat → Nat) : amx f 1 = 0 := by simp [amx]
theorem mxn_s0 (f : Nat → Nat) : mxn f 1 = f 0 := by rw [← mxn_amx f 1 (by decide), amx_s0]
theorem mxn_yes {f : Nat → Nat} {i : Nat} (h : bZ f i < (f i : Int)) : mxn f (i + 1) = f i := by
  unfold bZ at h
  by_cases e : i = 0
  · subst e
    exact mxn_s0 f
  · rw [if_neg e] at h
    rw [mxn, if_pos (by omega)]
theorem mxn_no {f : Nat → Nat} {i : Nat} (h : (f i : Int) ≤ bZ f i) : 0 < i ∧ mxn f (i + 1) = mxn f i := by
  unfold bZ at h
  by_cases e : i = 0
  · rw [if_pos e] at h
    omega
  · rw [if_neg e] at h
    refine ⟨by omega, ?_⟩
    rw [mxn, if_neg (by omega)]
theorem amx_bz {f : Nat → Nat} {i : Nat} (h : bZ f i < (f i : Int)) : amx f (i + 1) = i := by
  by_cases e : i = 0
  · subst e
    exact amx_s0 f
  · rw [bZ_amx (by omega)] at h
    rw [amx, if_pos (by omega)]
theorem amx_bn {f : Nat → Nat} {i : Nat} (h : (f i : Int) ≤ bZ f i) : amx f (i + 1) = amx f i := by
  have h0 := (mxn_no h).1
  rw [bZ_amx h0] at h
  rw [amx, if_neg (by omega)]
theorem bL_yes {f : Nat → Nat} {i : Nat} (h : bZ f i < (f i : Int)) : lN (f i) = bL f (i + 1) := by
  show _ = lN (mxn f (i + 1))
  rw [mxn_yes h]
theorem bL_no {f : Nat → Nat} {i : Nat} (h : (f i : Int) ≤ bZ f i) : bL f i = bL f (i + 1) := by
  obtain ⟨h0, e⟩ := mxn_no h
  show _ = lN (mxn f (i + 1))
  rw [e]
  cases i with
  | zero => omega
  | succ i => rfl
theorem bF_yes {f : Nat → Nat} {i : Nat} (h : bZ f i < (f i : Int)) : nI i = bF f (i + 1) := by
  show _ = nI (amx f (i + 1))
  rw [amx_bz h]
theorem bF_no {f : Nat → Nat} {i : Nat} (h : (f i : Int) ≤ bZ f i) : bF f i = bF f (i + 1) := by
  obtain ⟨h0, -⟩ := mxn_no h
  show _ = nI (amx f (i + 1))
  rw [amx_bn h]
  cases i with
  | zero => omega
  | succ i => rfl
theorem bD_yes {f : Nat → Nat} {i : Nat} (h : bZ f i < (f i : Int)) : nI (i + 1) = bD f (i + 1) := by
  show _ = nI (amx f (i + 1) + 1)
  rw [amx_bz h]
theorem bD_no {f : Nat → Nat} {i : Nat} (h : (f i : Int) ≤ bZ f i) : bD f i = bD f (i + 1) := by
  obtain ⟨h0, -⟩ := mxn_no h
  show _ = nI (amx f (i + 1) + 1)
  rw [amx_bn h]
  cases i with
  | zero => omega
  | succ i => rfl
theorem bL_max {f : Nat → Nat} {i : Nat} (h : mxn f i < 2 ^ 62) (h2 : f i < 2 ^ 62) : (if lN (f i) < bL f i then bL f i else lN (f i)) = bL f (i + 1) := by
  by_cases c : (f i : Int) ≤ bZ f i
  · by_cases c2 : lN (f i) < bL f i
    · rw [if_pos c2]
      exact bL_no c
    · rw [if_neg c2]
      rw [Int64.lt_iff_toInt_lt, bL_int h, pk_lT (by omega)] at c2
      obtain ⟨h0, e⟩ := mxn_no c
      show _ = lN (mxn f (i + 1))
      rw [e]
      unfold bZ at c c2
      rw [if_neg (by omega)] at c c2
      exact congrArg lN (by omega)
  · have c2 : ¬ lN (f i) < bL f i := by
      rw [Int64.lt_iff_toInt_lt, bL_int h, pk_lT (by omega)]
      omega
    rw [if_neg c2]
    exact bL_yes (by omega)
/-! a copied row; weights that are weighed -/
theorem cpyL (f h : Nat → Nat) : va_cpy (fun i => lN (f i)) (fun i => lN (h i)) 0 0 4 = fun i => lN (ff f h 4 i) := by
  funext k
  unfold va_cpy ff
  by_cases c : k < 4
  · rw [if_pos ⟨by omega, by omega⟩, if_pos c]
    simp
  · rw [if_neg (by omega), if_neg c]
theorem wg_ext {q : Nat → Nat → Nat} {j : Nat} {ch : Bool} {y : Nat} {v w : Nat → Nat} {i : Nat} (h : v i = w i) : wg q j ch y v i = wg q j ch y w i := by
  unfold wg
  rw [h]
theorem wg_le {q : Nat → Nat → Nat} {j : Nat} {ch : Bool} {y : Nat} {v : Nat → Nat} {i B : Nat} (h : v i ≤ B) : wg q j ch y v i ≤ 10 * B := by
  unfold wg
  have := tj_le q j (decide (i = j)) y
  have h2 : (if ch then tj q j (decide (i = j)) y else 10 - tj q j (decide (i = j)) y) ≤ 10 := by split <;> omega
  calc v i * _ ≤ B * 10 := Nat.mul_le_mul h h2
    _ = 10 * B := Nat.mul_comm _ _
theorem wgz {q : Nat → Nat → Nat} {j : Nat} {ch : Bool} {y : Nat} {v : Nat → Nat} {i : Nat} (h : v i = 0) : wg q j ch y v i = 0 := by
  unfold wg
  rw [h, Nat.zero_mul]
theorem rb_ext {n : Nat} {q : Nat → Nat → Nat} {y : Nat} : ∀ (m : Nat) (v w : Nat → Nat), (∀ i, i < n → v i = w i) → rb n q y m v = rb n q y m w
  | 0, v, w, h => mxn_ext n h
  | m + 1, v, w, h => by
    rw [rb, rb]
    refine mxn_ext n (fun e _ => ?_)
    rw [rb_ext m (wg q e true y v) (wg q e true y w) (fun i hi => wg_ext (h i hi)), rb_ext m (wg q e false y v) (wg q e false y w) (fun i hi => wg_ext (h i hi))]
theorem rb_le {n : Nat} {q : Nat → Nat → Nat} {y : Nat} : ∀ (m : Nat) (v : Nat → Nat) (B : Nat), (∀ i, i < n → v i ≤ B) → rb n q y m v ≤ B * 20 ^ m
  | 0, v, B, h => by
    rw [rb, Nat.pow_zero, Nat.mul_one]
    exact mxn_le n h
  | m + 1, v, B, h => by
    rw [rb]
    refine mxn_le n (fun e _ => ?_)
    have h1 := rb_le (q := q) (y := y) m (wg q e true y v) (10 * B) (fun i hi => wg_le (h i hi))
    have h2 := rb_le (q := q) (y := y) m (wg q e false y v) (10 * B) (fun i hi => wg_le (h i hi))
    have e2 : B * 20 ^ (m + 1) = 10 * B * 20 ^ m + 10 * B * 20 ^ m := by
      rw [Nat.pow_succ, Nat.mul_comm (20 ^ m) 20, ← Nat.mul_assoc]
      rw [← Nat.add_mul]
      congr 1
      omega
    omega
theorem wg_mul (q : Nat → Nat → Nat) (j : Nat) (y : Nat) (v : Nat → Nat) (i : Nat) : wg q j true y v i + wg q j false y v i = 10 * v i := by
  unfold wg
  have := tj_le q j (decide (i = j)) y
  simp only [if_true, Bool.false_eq_true, if_false]
  rw [← Nat.mul_add, show tj q j (decide (i = j)) y + (10 - tj q j (decide (i = j)) y) = 10 by omega, Nat.mul_comm]
theorem rie_le {n : Nat} {q : Nat → Nat → Nat} {y m : Nat} {v : Nat → Nat} {B : Nat} (h : ∀ i, i < n → v i ≤ B) (e : Nat) : rie n q y m v e ≤ B * 20 ^ (m + 1) := by
  have h1 := rb_le (q := q) (y := y) m (wg q e true y v) (10 * B) (fun i hi => wg_le (h i hi))
  have h2 := rb_le (q := q) (y := y) m (wg q e false y v) (10 * B) (fun i hi => wg_le (h i hi))
  have e2 : B * 20 ^ (m + 1) = 10 * B * 20 ^ m + 10 * B * 20 ^ m := by
    rw [Nat.pow_succ, Nat.mul_comm (20 ^ m) 20, ← Nat.mul_assoc, ← Nat.add_mul]
    congr 1
    omega
  unfold rie
  omega
theorem bL_pos {f : Nat → Nat} {n : Nat} (h : 0 < n) : bL f n = lN (mxn f n) := by
  cases n with
  | zero => omega
  | succ n => rfl
theorem bF_pos {f : Nat → Nat} {n : Nat} (h : 0 < n) : bF f n = nI (amx f n) := by
  cases n with
  | zero => omega
  | succ n => rfl
theorem bD_pos {f : Nat → Nat} {n : Nat} (h : 0 < n) : bD f n = nI (amx f n + 1) := by
  cases n with
  | zero => omega
  | succ n => rfl
def rv4 (a b c d : Nat → Nat) : Nat → Nat → Nat := fun k => cond (Nat.beq k 0) a (cond (Nat.beq k 1) b (cond (Nat.beq k 2) c d))
theorem XI_right {g : Nat → Nat} {q : Nat → Nat → Nat} (h : XI g q) (h5 : g 5 < 20) : XI (fg g 5 (g 5 + 1)) q :=
  ⟨h.n, h.n2, h.per, h.bu, h.w, h.z, h.pos, h.dry, h.hd, h.pl, h5, h.at, h.ats, h.pg, h.kc, h.k, h.c⟩
theorem dry1_le {n : Nat} {q : Nat → Nat → Nat} {v : Nat → Nat} {j i B : Nat} (h : ∀ i, i < n → v i ≤ B) : dry1 n q v j i ≤ 20 * B := by
  have h1 : mxn (wg q j true (i + 1) v) n ≤ 10 * B := mxn_le n (fun k hk => wg_le (h k hk))
  have h2 : mxn (wg q j false (i + 1) v) n ≤ 10 * B := mxn_le n (fun k hk => wg_le (h k hk))
  unfold dry1
  omega
theorem gcs_pos {f : Nat → Nat} : ∀ n, 0 < gcs f n ↔ mxn f n ≠ 0
  | 0 => by simp [gcs, mxn]
  | n + 1 => by
    have ih := gcs_pos (f := f) n
    rw [gcs, mxn]
    rcases Nat.eq_zero_or_pos (f n) with e | e
    · rw [e, Nat.gcd_zero_right, if_neg (by omega)]
      exact ih
    · have h1 := Nat.gcd_pos_of_pos_right (gcs f n) e
      by_cases c : mxn f n < f n
      · rw [if_pos c]
        omega
      · rw [if_neg c]
        omega
