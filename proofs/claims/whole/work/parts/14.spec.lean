/-! WHAT EACH CALL ANSWERS, and what is then: over numbers g, rows q, bits bt.
g: 0 accused, 1 dry, 2 heard, 3 letters, 4 courts read, 5 rights done, 6 the image's court, 7 its dry, 8 its heard, 9 how often one ate, 10 the image's
q: 0 kind, 1 fear, 2 odds, 3 butter, 4 weight, 5 ate, 6 choked, 7 the page, 8 .. 11 the image's butter, weight, ate, choked -/
def mxn (f : Nat → Nat) : Nat → Nat
  | 0 => 0
  | i + 1 => if mxn f i < f i then f i else mxn f i
theorem mxn_amx (f : Nat → Nat) : ∀ n, 0 < n → f (amx f n) = mxn f n
  | 0, h => absurd h (Nat.lt_irrefl 0)
  | 1, _ => by
    have e : amx f 1 = 0 := by simp [amx]
    rw [e]
    show f 0 = if 0 < f 0 then f 0 else 0
    by_cases h : 0 < f 0
    · rw [if_pos h]
    · rw [if_neg h]; omega
  | n + 2, _ => by
    have ih := mxn_amx f (n + 1) (by omega)
    rw [amx, mxn, ← ih]
    split <;> rfl
theorem mxn_ext {f h : Nat → Nat} : ∀ n, (∀ i, i < n → f i = h i) → mxn f n = mxn h n
  | 0, _ => rfl
  | n + 1, e => by rw [mxn, mxn, mxn_ext n (fun i hi => e i (by omega)), e n (by omega)]
theorem amx_ext {f h : Nat → Nat} : ∀ n, (∀ i, i < n → f i = h i) → amx f n = amx h n
  | 0, _ => rfl
  | 1, _ => by simp [amx]
  | n + 2, e => by
    have ih := amx_ext (n + 1) (fun i hi => e i (by omega))
    have hl := amx_lt h (n + 1) (by omega)
    show (if f (amx f (n + 1)) < f (n + 1) then n + 1 else amx f (n + 1)) = (if h (amx h (n + 1)) < h (n + 1) then n + 1 else amx h (n + 1))
    rw [ih, e (n + 1) (by omega), e (amx h (n + 1)) (by omega)]
theorem sm_ext {f h : Nat → Nat} : ∀ n, (∀ i, i < n → f i = h i) → sm f n = sm h n
  | 0, _ => rfl
  | n + 1, e => by rw [sm, sm, sm_ext n (fun i hi => e i (by omega)), e n (by omega)]
theorem gcs_ext {f h : Nat → Nat} : ∀ n, (∀ i, i < n → f i = h i) → gcs f n = gcs h n
  | 0, _ => rfl
  | n + 1, e => by rw [gcs, gcs, gcs_ext n (fun i hi => e i (by omega)), e n (by omega)]
theorem sm_up {f : Nat → Nat} {n : Nat} : ∀ k, (∀ i, n ≤ i → i < n + k → f i = 0) → sm f (n + k) = sm f n
  | 0, _ => rfl
  | k + 1, e => by rw [← Nat.add_assoc, sm, sm_up k (fun i h1 h2 => e i h1 (by omega)), e (n + k) (by omega) (by omega)]; rfl
theorem mxn_up {f : Nat → Nat} {n : Nat} : ∀ k, (∀ i, n ≤ i → i < n + k → f i = 0) → mxn f (n + k) = mxn f n
  | 0, _ => rfl
  | k + 1, e => by rw [← Nat.add_assoc, mxn, mxn_up k (fun i h1 h2 => e i h1 (by omega)), e (n + k) (by omega) (by omega), if_neg (by omega)]
theorem amx_up {f : Nat → Nat} {n : Nat} : ∀ k, (∀ i, n ≤ i → i < n + k → f i = 0) → amx f (n + k) = amx f n
  | 0, _ => rfl
  | k + 1, e => by rw [← Nat.add_assoc, amx, amx_up k (fun i h1 h2 => e i h1 (by omega)), e (n + k) (by omega) (by omega), if_neg (by omega)]
theorem gcs_up {f : Nat → Nat} {n : Nat} : ∀ k, (∀ i, n ≤ i → i < n + k → f i = 0) → gcs f (n + k) = gcs f n
  | 0, _ => rfl
  | k + 1, e => by rw [← Nat.add_assoc, gcs, gcs_up k (fun i h1 h2 => e i h1 (by omega)), e (n + k) (by omega) (by omega), Nat.gcd_zero_right]
theorem sm_4 {f : Nat → Nat} {n : Nat} (hn : n ≤ 4) (h : ∀ i, n ≤ i → i < 4 → f i = 0) : sm f 4 = sm f n := by
  have := sm_up (f := f) (n := n) (4 - n) (fun i h1 h2 => h i h1 (by omega))
  rwa [show n + (4 - n) = 4 by omega] at this
theorem mxn_4 {f : Nat → Nat} {n : Nat} (hn : n ≤ 4) (h : ∀ i, n ≤ i → i < 4 → f i = 0) : mxn f 4 = mxn f n := by
  have := mxn_up (f := f) (n := n) (4 - n) (fun i h1 h2 => h i h1 (by omega))
  rwa [show n + (4 - n) = 4 by omega] at this
theorem amx_4 {f : Nat → Nat} {n : Nat} (hn : n ≤ 4) (h : ∀ i, n ≤ i → i < 4 → f i = 0) : amx f 4 = amx f n := by
  have := amx_up (f := f) (n := n) (4 - n) (fun i h1 h2 => h i h1 (by omega))
  rwa [show n + (4 - n) = 4 by omega] at this
theorem gcs_4 {f : Nat → Nat} {n : Nat} (hn : n ≤ 4) (h : ∀ i, n ≤ i → i < 4 → f i = 0) : gcs f 4 = gcs f n := by
  have := gcs_up (f := f) (n := n) (4 - n) (fun i h1 h2 => h i h1 (by omega))
  rwa [show n + (4 - n) = 4 by omega] at this
theorem mxn_le {f : Nat → Nat} {B : Nat} : ∀ n, (∀ i, i < n → f i ≤ B) → mxn f n ≤ B
  | 0, _ => Nat.zero_le _
  | n + 1, e => by
    have ih := mxn_le n (fun i hi => e i (by omega))
    have := e n (by omega)
    rw [mxn]
    split <;> omega
theorem sm_le {f : Nat → Nat} {B : Nat} : ∀ n, (∀ i, i < n → f i ≤ B) → sm f n ≤ n * B
  | 0, _ => Nat.zero_le _
  | n + 1, e => by
    have ih := sm_le n (fun i hi => e i (by omega))
    have := e n (by omega)
    rw [sm, Nat.succ_mul]
    omega
theorem sm_pos {f : Nat → Nat} {j : Nat} : ∀ n, j < n → 0 < f j → 0 < sm f n
  | 0, h, _ => absurd h (Nat.not_lt_zero _)
  | n + 1, h, hp => by
    rw [sm]
    rcases Nat.lt_or_ge j n with q | q
    · have := sm_pos n q hp
      omega
    · rw [show n = j by omega]
      omega
/-- tenths of one, with his butter, on a loaf so dry -/
def tj (q : Nat → Nat → Nat) (j : Nat) (did : Bool) (y : Nat) : Nat := tn (dn (q 0 j) (q 1 j) did) y (q 3 j)
theorem tj_le (q : Nat → Nat → Nat) (j : Nat) (did : Bool) (y : Nat) : tj q j did y ≤ 10 := tn_le _ _ _
def ab (g : Nat → Nat) (q : Nat → Nat → Nat) (j k : Nat) : Int32 := if k = 0 then nI (q 0 j) else if k = 1 then nI (q 1 j) else if k = 2 then nI (q 2 j) else if k = 3 then nI (q 3 j) else if k = 4 then nI (tj q j true (g 1)) else if k = 5 then nI (tj q j false (g 1)) else if k = 6 then nI (q 5 j) else if k = 7 then nI (q 6 j) else need (q 0 j) (q 1 j) (g 1)
def F_about (g : Nat → Nat) (q : Nat → Nat → Nat) (x y : Int32) : Int32 := match ix (g 0) x with
  | none => -101
  | some j => match ix 9 y with
    | none => -102
    | some k => ab g q j k
def isK (k w : Nat) : Bool := decide (w = 0) || decide (k = w) || (decide (w = 1) && decide (k = 4))
def F_as (g : Nat → Nat) (q : Nat → Nat → Nat) (x y : Int32) : Int32 := match ix (g 0) x with
  | none => -101
  | some j => match ix 5 y with
    | none => -102
    | some k => if isK (q 0 j) k then nI j else -1
def F_butter (g : Nat → Nat) (q : Nat → Nat → Nat) (x y : Int32) : Int32 := match ix (g 0) x with
  | none => -101
  | some j => match ix 10 y with
    | none => -102
    | some _ => nI (q 3 j)
def N_butter (g : Nat → Nat) (q : Nat → Nat → Nat) (x y : Int32) : Nat → Nat → Nat := match ix (g 0) x with
  | none => q
  | some j => match ix 10 y with
    | none => q
    | some b => fq q 3 (fu (q 3) j b)
def ix1 (y : Int32) : Option Nat := match ix 10 y with
  | some (b + 1) => some (b + 1)
  | _ => none
def F_loaf (g : Nat → Nat) (y : Int32) : Int32 := match ix1 y with
  | none => -102
  | some _ => if g 0 = 0 then -103 else nI (g 1)
def N_loaf (g : Nat → Nat) (y : Int32) : Nat → Nat := match ix1 y with
  | none => g
  | some b => if g 0 = 0 then g else fg g 1 b
/-- the weights if one eats, not divided -/
def wg (q : Nat → Nat → Nat) (j : Nat) (ch : Bool) (y : Nat) (v : Nat → Nat) : Nat → Nat := fun i => v i * (if ch then tj q j (decide (i = j)) y else 10 - tj q j (decide (i = j)) y)
def F_eat (g : Nat → Nat) (q : Nat → Nat → Nat) (x : Int32) (ch : Bool) : Int32 := match ix (g 0) x with
  | none => -101
  | some j => if mxn (wg q j ch (g 1) (q 4)) (g 0) = 0 then -103 else if 6 ≤ g 9 then -104 else nI (amx (fun i => wg q j ch (g 1) (q 4) i / gcs (wg q j ch (g 1) (q 4)) (g 0)) (g 0))
def eats (g : Nat → Nat) (q : Nat → Nat → Nat) (j : Nat) (ch : Bool) : Bool := decide (mxn (wg q j ch (g 1) (q 4)) (g 0) ≠ 0) && decide (g 9 < 6)
def N_eatq (g : Nat → Nat) (q : Nat → Nat → Nat) (x : Int32) (ch : Bool) : Nat → Nat → Nat := match ix (g 0) x with
  | none => q
  | some j => if eats g q j ch then fq (fq (fq q 4 (ff (fun i => wg q j ch (g 1) (q 4) i / gcs (wg q j ch (g 1) (q 4)) (g 0)) (q 4) 4)) 5 (fu (q 5) j (q 5 j + 1))) 6 (if ch then fu (q 6) j (q 6 j + 1) else q 6) else q
def N_eatg (g : Nat → Nat) (q : Nat → Nat → Nat) (x : Int32) (ch : Bool) : Nat → Nat := match ix (g 0) x with
  | none => g
  | some j => if eats g q j ch then fg g 9 (g 9 + 1) else g
def F_belief (g : Nat → Nat) (q : Nat → Nat → Nat) (x y : Int32) : Int64 := match ix (g 0) x with
  | none => -101
  | some j => match ix 2 y with
    | none => -102
    | some k => lN (lowT (q 4 j) (sm (q 4) (g 0)) k)
def F_judged (g : Nat → Nat) (q : Nat → Nat → Nat) : Int32 := if g 0 = 0 then -103 else nI (amx (q 4) (g 0))
/-- at best, by m loaves -/
def rb (n : Nat) (q : Nat → Nat → Nat) (y : Nat) : Nat → (Nat → Nat) → Nat
  | 0, v => mxn v n
  | m + 1, v => mxn (fun e => rb n q y m (wg q e true y v) + rb n q y m (wg q e false y v)) n
def rie (n : Nat) (q : Nat → Nat → Nat) (y : Nat) (m : Nat) (v : Nat → Nat) (e : Nat) : Nat := rb n q y m (wg q e true y v) + rb n q y m (wg q e false y v)
/-- who had best eat first -/
def bst (n : Nat) (q : Nat → Nat → Nat) (y : Nat) (v : Nat → Nat) : Nat → Int32
  | 0 => -1
  | m + 1 => nI (amx (rie n q y m v) n)
def F_right (g : Nat → Nat) (q : Nat → Nat → Nat) (x y : Int32) : Int64 := match ix 4 x with
  | none => -102
  | some m => match ix 3 y with
    | none => -102
    | some k => if g 0 = 0 ∨ 20 ≤ g 5 then -103 else if k = 2 then (bst (g 0) q (g 1) (q 4) m).toInt64 else lN (lowT (rb (g 0) q (g 1) m (q 4)) (sm (q 4) (g 0) * 10 ^ m) k)
def N_right (g : Nat → Nat) (x y : Int32) : Nat → Nat := match ix 4 x with
  | none => g
  | some _ => match ix 3 y with
    | none => g
    | some _ => if g 0 = 0 ∨ 20 ≤ g 5 then g else fg g 5 (g 5 + 1)
/-- how likely one is judged rightly if just he eats, on a loaf i + 1 dry: parts -/
def dry1 (n : Nat) (q : Nat → Nat → Nat) (v : Nat → Nat) (j i : Nat) : Nat := mxn (wg q j true (i + 1) v) n + mxn (wg q j false (i + 1) v) n
def dri (g : Nat → Nat) (q : Nat → Nat → Nat) (j k : Nat) : Int64 := if k = 0 then lN (amx (dry1 (g 0) q (q 4) j) 9 + 1) else lN (lowT (mxn (dry1 (g 0) q (q 4) j) 9) (10 * sm (q 4) (g 0)) (k - 1))
def F_driest (g : Nat → Nat) (q : Nat → Nat → Nat) (x y : Int32) : Int64 := match ix (g 0) x with
  | none => -101
  | some j => match ix 3 y with
    | none => -102
    | some k => dri g q j k
def F_hear (g : Nat → Nat) (x : Int32) : Int32 := match ix (g 0) x with
  | none => -101
  | some _ => if 6 ≤ g 2 then -104 else nI (g 2 + 1)
def fb (bt : Nat → Nat → Int32) (k : Nat) (f : Nat → Int32) : Nat → Nat → Int32 := fun a => cond (Nat.beq a k) f (bt a)
def N_hearg (g : Nat → Nat) (x : Int32) : Nat → Nat := match ix (g 0) x with
  | none => g
  | some _ => if 6 ≤ g 2 then g else fg g 2 (g 2 + 1)
def N_hearb (g : Nat → Nat) (q : Nat → Nat → Nat) (bt : Nat → Nat → Int32) (x : Int32) (did ch : Bool) : Nat → Nat → Int32 := match ix (g 0) x with
  | none => bt
  | some j => if 6 ≤ g 2 then bt else fb bt 0 (upd (bt 0) j (bt 0 j &&& bbF (okB (q 0 j) (q 1 j) did ch (g 1)) 10))
def F_buttered (g : Nat → Nat) (bt : Nat → Nat → Int32) (x : Int32) : Int32 := match ix (g 0) x with
  | none => -101
  | some j => bt 0 j
/-- sessions: seed, how many choke, how many of these did not do it -/
def ses (n : Nat) (q : Nat → Nat → Nat) (y j : Nat) (sd : Nat) : Nat → Nat × Nat × Nat
  | 0 => (sd, 0, 0)
  | t + 1 =>
    let r := ses n q y j sd t
    let w := nxs r.1 / 65536 % n
    let c := decide (nxs (nxs r.1) / 65536 % 10 < tj q w (decide (w = j)) y)
    (nxs (nxs r.1), r.2.1 + (if c then 1 else 0), r.2.2 + (if c && decide (w ≠ j) then 1 else 0))
def F_sessions (g : Nat → Nat) (q : Nat → Nat → Nat) (x t sd y : Int32) : Int32 := match ix (g 0) x with
  | none => -101
  | some j => match ix 61 t with
    | some (k + 1) => match ix 2147483648 sd with
      | some d => match ix 3 y with
        | some w => if w = 0 then nI (ses (g 0) q (g 1) j d (k + 1)).2.1 else if w = 1 then nI (ses (g 0) q (g 1) j d (k + 1)).2.2 else nI (ses (g 0) q (g 1) j d (k + 1)).1
        | none => -102
      | none => -102
    | _ => -102
def cn (g : Nat → Nat) (q : Nat → Nat → Nat) (k : Nat) : Int32 := if k = 0 then nI (g 0) else if k = 1 then nI (g 1) else if k = 2 then nI (g 9) else if k = 3 then nI (sm (q 6) (g 0)) else if k = 4 then nI (sm (q 3) (g 0)) else if k = 5 then nI (g 2) else if k = 6 then nI (g 3) else if k = 7 then nI (g 4) else nI (g 5)
def F_count (g : Nat → Nat) (q : Nat → Nat → Nat) (y : Int32) : Int32 := match ix 9 y with
  | none => -102
  | some k => cn g q k
/-- the digest -/
def dga (g : Nat → Nat) (q : Nat → Nat → Nat) (j : Nat) (h : Int64) : Nat → Int64
  | 0 => h
  | k + 1 => fo (dga g q j h k) (ab g q j k).toInt64
def dgd (g : Nat → Nat) (q : Nat → Nat → Nat) (j : Nat) (h : Int64) : Nat → Int64
  | 0 => h
  | k + 1 => fo (dgd g q j h k) (dri g q j k)
def dg1 (g : Nat → Nat) (q : Nat → Nat → Nat) (bt : Nat → Nat → Int32) (j : Nat) (h : Int64) : Int64 := fo (dgd g q j (fo (fo (dga g q j h 9) (lN (lowT (q 4 j) (sm (q 4) (g 0)) 0))) (lN (lowT (q 4 j) (sm (q 4) (g 0)) 1))) 3) (bt 0 j).toInt64
def dgn (g : Nat → Nat) (q : Nat → Nat → Nat) (bt : Nat → Nat → Int32) : Nat → Int64
  | 0 => lN 919
  | j + 1 => dg1 g q bt j (dgn g q bt j)
def dgp (q : Nat → Nat → Nat) (h : Int64) : Nat → Int64
  | 0 => h
  | i + 1 => fo (dgp q h i) (lN (q 7 i))
def dgc (g : Nat → Nat) (q : Nat → Nat → Nat) (h : Int64) : Nat → Int64
  | 0 => h
  | k + 1 => fo (dgc g q h k) (cn g q k).toInt64
def F_digest (g : Nat → Nat) (q : Nat → Nat → Nat) (bt : Nat → Nat → Int32) : Int64 :=
  dgc g q (dgp q (if 0 < g 0 then fo (dgn g q bt (g 0)) (lN (amx (q 4) (g 0))) else dgn g q bt (g 0)) (g 3)) 9
theorem F_about_t {g : Nat → Nat} {q : Nat → Nat → Nat} {w : Nat} (h : w < g 0) (hn : g 0 ≤ 4) : F_about g q (nI w) (nI 4) = nI (tj q w true (g 1)) := by
  unfold F_about
  rw [ix_nI h (by omega), ix_nI (by decide) (by decide)]
  rfl
theorem F_about_f {g : Nat → Nat} {q : Nat → Nat → Nat} {w : Nat} (h : w < g 0) (hn : g 0 ≤ 4) : F_about g q (nI w) (nI 5) = nI (tj q w false (g 1)) := by
  unfold F_about
  rw [ix_nI h (by omega), ix_nI (by decide) (by decide)]
  rfl
section SES
variable {n : Nat} {q : Nat → Nat → Nat} {y j sd t : Nat}
/-- who eats in the next session -/
def sew (n : Nat) (q : Nat → Nat → Nat) (y j sd t : Nat) : Nat := nxs (ses n q y j sd t).1 / 65536 % n
def sec (n : Nat) (q : Nat → Nat → Nat) (y j sd t : Nat) : Nat := nxs (nxs (ses n q y j sd t).1) / 65536 % 10
theorem ses_1 : (ses n q y j sd (t + 1)).1 = nxs (nxs (ses n q y j sd t).1) := rfl
theorem ses_y1 (did : Bool) (hd : did = decide (sew n q y j sd t = j)) (hc : sec n q y j sd t < tj q (sew n q y j sd t) did y) : (ses n q y j sd t).2.1 + 1 = (ses n q y j sd (t + 1)).2.1 := by
  subst hd
  show _ = (ses n q y j sd t).2.1 + (if decide (sec n q y j sd t < tj q (sew n q y j sd t) (decide (sew n q y j sd t = j)) y) = true then 1 else 0)
  rw [if_pos (decide_eq_true hc)]
theorem ses_n1 (did : Bool) (hd : did = decide (sew n q y j sd t = j)) (hc : ¬ sec n q y j sd t < tj q (sew n q y j sd t) did y) : (ses n q y j sd t).2.1 = (ses n q y j sd (t + 1)).2.1 := by
  subst hd
  show _ = (ses n q y j sd t).2.1 + (if decide (sec n q y j sd t < tj q (sew n q y j sd t) (decide (sew n q y j sd t = j)) y) = true then 1 else 0)
  rw [if_neg (by rw [decide_eq_true_iff]; exact hc)]
  rfl
theorem ses_y2 (did : Bool) (hd : did = decide (sew n q y j sd t = j)) (hc : sec n q y j sd t < tj q (sew n q y j sd t) did y) : (ses n q y j sd t).2.2 + (if did then 0 else 1) = (ses n q y j sd (t + 1)).2.2 := by
  subst hd
  show _ = (ses n q y j sd t).2.2 + (if (decide (sec n q y j sd t < tj q (sew n q y j sd t) (decide (sew n q y j sd t = j)) y) && decide (sew n q y j sd t ≠ j)) = true then 1 else 0)
  rw [decide_eq_true hc, Bool.true_and]
  by_cases e : sew n q y j sd t = j
  · simp [e]
  · simp [e]
theorem ses_n2 (did : Bool) (hd : did = decide (sew n q y j sd t = j)) (hc : ¬ sec n q y j sd t < tj q (sew n q y j sd t) did y) : (ses n q y j sd t).2.2 = (ses n q y j sd (t + 1)).2.2 := by
  subst hd
  show _ = (ses n q y j sd t).2.2 + (if (decide (sec n q y j sd t < tj q (sew n q y j sd t) (decide (sew n q y j sd t = j)) y) && decide (sew n q y j sd t ≠ j)) = true then 1 else 0)
  rw [decide_eq_false hc, Bool.false_and]
  rfl
end SES
/-! letters, the image -/
def ixc (y : Int32) : Option Nat := if 32 ≤ y.toInt ∧ y.toInt ≤ 126 then some y.toInt.toNat else none
theorem ixc_some {y : Int32} {c : Nat} (h : ixc y = some c) : 32 ≤ c ∧ c ≤ 126 ∧ y = nI c := by
  unfold ixc at h
  split at h
  · rename_i hh
    have e := Option.some.inj h
    refine ⟨by omega, by omega, ?_⟩
    apply Int32.toInt_inj.mp
    rw [nI_toInt (by omega)]
    omega
  · cases h
theorem ixc_none {y : Int32} (h : ixc y = none) : y.toInt < 32 ∨ 126 < y.toInt := by
  unfold ixc at h
  split at h
  · cases h
  · omega
def F_letter (g : Nat → Nat) (y : Int32) : Int32 := match ixc y with
  | none => -102
  | some _ => if g 3 < 18 then nI (g 3 + 1) else -104
def N_letterg (g : Nat → Nat) (y : Int32) : Nat → Nat := match ixc y with
  | none => g
  | some _ => if g 3 < 18 then fg g 3 (g 3 + 1) else g
def N_letterq (g : Nat → Nat) (q : Nat → Nat → Nat) (y : Int32) : Nat → Nat → Nat := match ixc y with
  | none => q
  | some c => if g 3 < 18 then fq q 7 (fu (q 7) (g 3) c) else q
/-- the image's rows out of those of now, and back -/
def imq (q : Nat → Nat → Nat) : Nat → Nat → Nat := fq (fq (fq (fq q 8 (ff (q 3) (q 8) 4)) 9 (ff (q 4) (q 9) 4)) 10 (ff (q 5) (q 10) 4)) 11 (ff (q 6) (q 11) 4)
def img (g : Nat → Nat) : Nat → Nat := fg (fg (fg (fg g 6 (g 4)) 7 (g 1)) 8 (g 2)) 10 (g 9)
def imb (bt : Nat → Nat → Int32) : Nat → Nat → Int32 := fb bt 1 (fr (bt 0) (bt 1) 4)
def req (q : Nat → Nat → Nat) : Nat → Nat → Nat := fq (fq (fq (fq q 3 (ff (q 8) (q 3) 4)) 4 (ff (q 9) (q 4) 4)) 5 (ff (q 10) (q 5) 4)) 6 (ff (q 11) (q 6) 4)
def reg (g : Nat → Nat) : Nat → Nat := fg (fg (fg g 1 (g 7)) 2 (g 8)) 9 (g 10)
def reb (bt : Nat → Nat → Int32) : Nat → Nat → Int32 := fb bt 0 (fr (bt 1) (bt 0) 4)
def F_image (g : Nat → Nat) : Int32 := if g 0 = 0 then -103 else nI (g 9)
def F_restore (g : Nat → Nat) : Int32 := if g 6 = 0 ∨ g 6 ≠ g 4 then -103 else nI (g 10)
abbrev XS : Type := (Nat → Nat) × (Nat → Nat → Nat) × (Nat → Nat → Int32) × (Nat → Nat → Nat)
theorem F_about_ab {g : Nat → Nat} {q : Nat → Nat → Nat} {j k : Nat} (h : j < g 0) (hn : g 0 ≤ 4) (hk : k < 9) : F_about g q (nI j) (nI k) = ab g q j k := by
  unfold F_about
  rw [ix_nI h (by omega), ix_nI hk (by decide)]
theorem F_belief_in {g : Nat → Nat} {q : Nat → Nat → Nat} {j k : Nat} (h : j < g 0) (hn : g 0 ≤ 4) (hk : k < 2) : F_belief g q (nI j) (nI k) = lN (lowT (q 4 j) (sm (q 4) (g 0)) k) := by
  unfold F_belief
  rw [ix_nI h (by omega), ix_nI hk (by decide)]
theorem F_driest_in {g : Nat → Nat} {q : Nat → Nat → Nat} {j k : Nat} (h : j < g 0) (hn : g 0 ≤ 4) (hk : k < 3) : F_driest g q (nI j) (nI k) = dri g q j k := by
  unfold F_driest
  rw [ix_nI h (by omega), ix_nI hk (by decide)]
theorem F_buttered_in {g : Nat → Nat} {bt : Nat → Nat → Int32} {j : Nat} (h : j < g 0) (hn : g 0 ≤ 4) : F_buttered g bt (nI j) = bt 0 j := by
  unfold F_buttered
  rw [ix_nI h (by omega)]
theorem F_count_in {g : Nat → Nat} {q : Nat → Nat → Nat} {k : Nat} (hk : k < 9) : F_count g q (nI k) = cn g q k := by
  unfold F_count
  rw [ix_nI hk (by decide)]
def dgb (g : Nat → Nat) (q : Nat → Nat → Nat) (j : Nat) (h : Int64) : Nat → Int64
  | 0 => h
  | k + 1 => fo (dgb g q j h k) (lN (lowT (q 4 j) (sm (q 4) (g 0)) k))
