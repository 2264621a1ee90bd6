/-! the reference's reading of the page is the class's -/
def rdF (pg : Nat → Nat) (n : Nat) : Nat → Nat → Nat × Bool × Nat
  | 0, m => (4 * m, false, m)
  | f + 1, m =>
    if rdO pg n (4 * m) ≠ 4 * m + 3 then (rdO pg n (4 * m), false, m)
    else if cd pg n (4 * m + 3) = 59 ∧ 1 ≤ m then (if dgt (cd pg n (4 * m + 4)) 1 then (4 * m + 5, decide (4 * m + 5 = n), m + 1) else (4 * m + 4, false, m + 1))
    else if m = 3 ∨ cd pg n (4 * m + 3) ≠ 44 then (4 * m + 3, false, m + 1)
    else rdF pg n f (m + 1)
section RDF
variable {pg : Nat → Nat} {n i : Nat}
theorem rd_u (h : i ≤ 3) : rdF pg n (4 - i) i = (if rdO pg n (4 * i) ≠ 4 * i + 3 then (rdO pg n (4 * i), false, i) else if cd pg n (4 * i + 3) = 59 ∧ 1 ≤ i then (if dgt (cd pg n (4 * i + 4)) 1 then (4 * i + 5, decide (4 * i + 5 = n), i + 1) else (4 * i + 4, false, i + 1)) else if i = 3 ∨ cd pg n (4 * i + 3) ≠ 44 then (4 * i + 3, false, i + 1) else rdF pg n (4 - (i + 1)) (i + 1)) := by
  rw [show 4 - i = (4 - (i + 1)) + 1 by omega, rdF]
theorem rd_a (h : i ≤ 3) (h1 : rdO pg n (4 * i) ≠ 4 * i + 3) : rdF pg n (4 - i) i = (rdO pg n (4 * i), false, i) := by rw [rd_u h, if_pos h1]
theorem rd_b (h : i ≤ 3) (h1 : rdO pg n (4 * i) = 4 * i + 3) (h2 : cd pg n (4 * i + 3) = 59) (h3 : 1 ≤ i) (h4 : dgt (cd pg n (4 * i + 4)) 1 = true) : rdF pg n (4 - i) i = (4 * i + 5, decide (4 * i + 5 = n), i + 1) := by
  rw [rd_u h, if_neg (by omega), if_pos ⟨h2, h3⟩, if_pos h4]
theorem rd_c (h : i ≤ 3) (h1 : rdO pg n (4 * i) = 4 * i + 3) (h2 : cd pg n (4 * i + 3) = 59) (h3 : 1 ≤ i) (h4 : dgt (cd pg n (4 * i + 4)) 1 = false) : rdF pg n (4 - i) i = (4 * i + 4, false, i + 1) := by
  rw [rd_u h, if_neg (by omega), if_pos ⟨h2, h3⟩, if_neg (by rw [h4]; decide)]
theorem rd_d (h : i ≤ 3) (h1 : rdO pg n (4 * i) = 4 * i + 3) (h2 : ¬ (cd pg n (4 * i + 3) = 59 ∧ 1 ≤ i)) (h3 : i = 3 ∨ cd pg n (4 * i + 3) ≠ 44) : rdF pg n (4 - i) i = (4 * i + 3, false, i + 1) := by
  rw [rd_u h, if_neg (by omega), if_neg h2, if_pos h3]
theorem rd_e (h : i < 3) (h1 : rdO pg n (4 * i) = 4 * i + 3) (h2 : cd pg n (4 * i + 3) = 44) : rdF pg n (4 - i) i = rdF pg n (4 - (i + 1)) (i + 1) := by
  rw [rd_u (by omega), if_neg (by omega), if_neg (by omega), if_neg (by omega)]
theorem fst_eq {b : Nat → Bool} : ∀ m i r, i ≤ r → r ≤ i + m → (∀ k, i ≤ k → k < r → b k = true) → (r = i + m ∨ b r = false) → fst b m i = r
  | 0, i, r, h1, h2, _, _ => by rw [fst]; omega
  | m + 1, i, r, h1, h2, h3, h4 => by
    rw [fst]
    rcases Nat.eq_or_lt_of_le h1 with e | e
    · subst e
      rcases h4 with h4 | h4
      · omega
      · rw [if_neg (by rw [h4]; decide)]
    · rw [if_pos (h3 i (Nat.le_refl _) e)]
      exact fst_eq m (i + 1) r (by omega) (by omega) (fun k a b => h3 k (by omega) b) (h4.elim (fun h => Or.inl (by omega)) Or.inr)
theorem flt_eq {r : Nat} (h2 : r ≤ n) (h3 : ∀ k, k < r → fit pg n k = true) (h4 : r = n ∨ fit pg n r = false) : flt pg n = r :=
  fst_eq n 0 r (Nat.zero_le _) (by omega) (fun k _ h => h3 k h) (h4.elim (fun h => Or.inl (by omega)) Or.inr)
theorem fE_no : ∀ {r : Nat}, fE pg n r = none → ∀ k, k < r → cd pg n k ≠ 59
  | 0, _, k, h => by omega
  | r + 1, h, k, hk => by
    rw [fE] at h
    by_cases c : cd pg n r = 59
    · rw [if_pos c] at h; cases h
    · rw [if_neg c] at h
      rcases Nat.lt_or_ge k r with e | e
      · exact fE_no h k e
      · rw [show k = r by omega]; exact c
theorem whl_no {r : Nat} (hr : flt pg n = r) (h : ∀ k, k + 2 = r → cd pg n k ≠ 59) : whl pg n = false := by
  unfold whl
  rw [Bool.and_eq_false_iff]
  by_cases c : r = n
  · by_cases c2 : 2 ≤ n
    · right
      rw [decide_eq_false_iff_not]
      exact h (n - 2) (by omega)
    · left
      rw [Bool.and_eq_false_iff]
      right
      rw [decide_eq_false_iff_not]
      exact c2
  · left
    rw [Bool.and_eq_false_iff]
    left
    rw [decide_eq_false_iff_not]
    omega
theorem kOk_59 {c : Nat} (h : kOk c = true) : c ≠ 59 ∧ c ≠ 0 := by
  unfold kOk at h
  simp only [Bool.or_eq_true, decide_eq_true_iff] at h
  omega
theorem dgt_59 {c l : Nat} (h : dgt c l = true) : c ≠ 59 ∧ c ≠ 0 := by
  unfold dgt at h
  rw [decide_eq_true_iff] at h
  omega
theorem cd_ne {k : Nat} (h : cd pg n k ≠ 0) : k < n := by
  rcases Nat.lt_or_ge k n with e | e
  · exact e
  · exact absurd (cd_out e) h
/-- what the reading answers, as the class says it -/
def rdOK (pg : Nat → Nat) (n : Nat) (t : Nat × Bool × Nat) : Prop := t.1 = flt pg n ∧ t.2.1 = whl pg n ∧ (whl pg n = true → t.2.2 = min 4 ((n - 1) / 4))
theorem rdOK_no {r m : Nat} (h : flt pg n = r) (hw : whl pg n = false) : rdOK pg n (r, false, m) := ⟨h.symm, hw.symm, fun h9 => by rw [hw] at h9; cases h9⟩
theorem rd_spec : ∀ (f i : Nat), f + i = 4 → 4 * i ≤ n → (∀ k, k < 4 * i → fit pg n k = true) → fE pg n (4 * i) = none → i ≤ 3 → rdOK pg n (rdF pg n f i)
  | 0, i, h, _, _, _, hi => by omega
  | f + 1, i, h, hn, hp, he, hi => by
    have ef : f + 1 = 4 - i := by omega
    rw [ef]
    have hno := fE_no he
    have f0 : fit pg n (4 * i) = kOk (cd pg n (4 * i)) := by
      unfold fit
      rw [he]
      show ftA pg n (4 * i) = _
      unfold ftA
      rw [if_pos (by omega)]
    by_cases k0 : kOk (cd pg n (4 * i)) = true
    · have n0 := cd_ne (kOk_59 k0).2
      have e1 : fE pg n (4 * i + 1) = none := by rw [fE, if_neg (kOk_59 k0).1]; exact he
      have f1 : fit pg n (4 * i + 1) = dgt (cd pg n (4 * i + 1)) 0 := by
        unfold fit
        rw [e1]
        show ftA pg n (4 * i + 1) = _
        unfold ftA
        rw [if_neg (by omega), if_pos (by omega)]
      have p1 : ∀ k, k < 4 * i + 1 → fit pg n k = true := fun k hk => by
        rcases Nat.lt_or_ge k (4 * i) with c | c
        · exact hp k c
        · rw [show k = 4 * i by omega, f0]; exact k0
      by_cases k1 : dgt (cd pg n (4 * i + 1)) 0 = true
      · have n1 := cd_ne (dgt_59 k1).2
        have e2 : fE pg n (4 * i + 2) = none := by rw [fE, if_neg (dgt_59 k1).1]; exact e1
        have f2 : fit pg n (4 * i + 2) = dgt (cd pg n (4 * i + 2)) 1 := by
          unfold fit
          rw [e2]
          show ftA pg n (4 * i + 2) = _
          unfold ftA
          rw [if_neg (by omega), if_neg (by omega), if_pos (by omega)]
        have p2 : ∀ k, k < 4 * i + 2 → fit pg n k = true := fun k hk => by
          rcases Nat.lt_or_ge k (4 * i + 1) with c | c
          · exact p1 k c
          · rw [show k = 4 * i + 1 by omega, f1]; exact k1
        by_cases k2 : dgt (cd pg n (4 * i + 2)) 1 = true
        · have n2 := cd_ne (dgt_59 k2).2
          have e3 : fE pg n (4 * i + 3) = none := by rw [fE, if_neg (dgt_59 k2).1]; exact e2
          have f3 : fit pg n (4 * i + 3) = bh (cd pg n (4 * i + 3)) (i + 1) := by
            unfold fit
            rw [e3]
            show ftA pg n (4 * i + 3) = _
            unfold ftA
            rw [if_neg (by omega), if_neg (by omega), if_neg (by omega), show (4 * i + 3) / 4 + 1 = i + 1 by omega]
          have p3 : ∀ k, k < 4 * i + 3 → fit pg n k = true := fun k hk => by
            rcases Nat.lt_or_ge k (4 * i + 2) with c | c
            · exact p2 k c
            · rw [show k = 4 * i + 2 by omega, f2]; exact k2
          have ro : rdO pg n (4 * i) = 4 * i + 3 := by unfold rdO; rw [if_pos k0, if_pos k1, if_pos k2]
          by_cases c59 : cd pg n (4 * i + 3) = 59 ∧ 1 ≤ i
          · have n3 : 4 * i + 3 < n := cd_ne (by rw [c59.1]; decide)
            have t3 : fit pg n (4 * i + 3) = true := by rw [f3]; unfold bh; simp; omega
            have e4 : fE pg n (4 * i + 4) = some (4 * i + 3) := by rw [fE, if_pos c59.1]
            have f4 : fit pg n (4 * i + 4) = dgt (cd pg n (4 * i + 4)) 1 := by
              unfold fit
              rw [e4]
              show (decide (4 * i + 4 = 4 * i + 3 + 1) && _) = _
              rw [decide_eq_true (by omega), Bool.true_and]
            have p4 : ∀ k, k < 4 * i + 4 → fit pg n k = true := fun k hk => by
              rcases Nat.lt_or_ge k (4 * i + 3) with c | c
              · exact p3 k c
              · rw [show k = 4 * i + 3 by omega]; exact t3
            by_cases k4 : dgt (cd pg n (4 * i + 4)) 1 = true
            · have n4 := cd_ne (dgt_59 k4).2
              rw [rd_b hi ro c59.1 c59.2 k4]
              have e5 : fE pg n (4 * i + 5) = some (4 * i + 3) := by rw [fE, if_neg (dgt_59 k4).1]; exact e4
              have f5 : fit pg n (4 * i + 5) = false := by
                unfold fit
                rw [e5]
                show (decide (4 * i + 5 = 4 * i + 3 + 1) && _) = _
                rw [decide_eq_false (by omega), Bool.false_and]
              have p5 : ∀ k, k < 4 * i + 5 → fit pg n k = true := fun k hk => by
                rcases Nat.lt_or_ge k (4 * i + 4) with c | c
                · exact p4 k c
                · rw [show k = 4 * i + 4 by omega, f4]; exact k4
              have hf := flt_eq (pg := pg) (n := n) (r := 4 * i + 5) (by omega) p5 (Or.inr f5)
              refine ⟨hf.symm, ?_, ?_⟩
              · unfold whl
                rw [hf]
                by_cases c : 4 * i + 5 = n
                · rw [decide_eq_true c, decide_eq_true (show 2 ≤ n by omega), show n - 2 = 4 * i + 3 by omega, decide_eq_true c59.1]
                  rfl
                · rw [decide_eq_false c]
                  rfl
              · intro hw
                unfold whl at hw
                rw [hf] at hw
                simp only [Bool.and_eq_true, decide_eq_true_iff] at hw
                show i + 1 = _
                omega
            · have k4' : dgt (cd pg n (4 * i + 4)) 1 = false := by revert k4; cases dgt (cd pg n (4 * i + 4)) 1 <;> simp
              rw [rd_c hi ro c59.1 c59.2 k4']
              have hf := flt_eq (pg := pg) (n := n) (r := 4 * i + 4) (by omega) p4 (Or.inr (f4.trans k4'))
              exact rdOK_no hf (whl_no hf (fun k hk => by rw [show k = 4 * i + 2 by omega]; exact (dgt_59 k2).1))
          · by_cases c44 : i = 3 ∨ cd pg n (4 * i + 3) ≠ 44
            · rw [rd_d hi ro c59 c44]
              have fb : fit pg n (4 * i + 3) = false := by
                rw [f3]
                unfold bh
                simp
                omega
              have hf := flt_eq (pg := pg) (n := n) (r := 4 * i + 3) (by omega) p3 (Or.inr fb)
              exact rdOK_no hf (whl_no hf (fun k hk => by rw [show k = 4 * i + 1 by omega]; exact (dgt_59 k1).1))
            · have c4 : cd pg n (4 * i + 3) = 44 := by omega
              have n3 : 4 * i + 3 < n := cd_ne (by rw [c4]; decide)
              rw [rd_e (by omega) ro c4, show 4 - (i + 1) = f by omega]
              have t3 : fit pg n (4 * i + 3) = true := by rw [f3]; unfold bh; simp; omega
              refine rd_spec f (i + 1) (by omega) (by omega) (fun k hk => ?_) ?_ (by omega)
              · rcases Nat.lt_or_ge k (4 * i + 3) with c | c
                · exact p3 k c
                · rw [show k = 4 * i + 3 by omega]; exact t3
              · rw [show 4 * (i + 1) = 4 * i + 3 + 1 by omega, fE, if_neg (by omega)]
                exact e3
        · have k2' : dgt (cd pg n (4 * i + 2)) 1 = false := by revert k2; cases dgt (cd pg n (4 * i + 2)) 1 <;> simp
          have ro : rdO pg n (4 * i) = 4 * i + 2 := by unfold rdO; rw [if_pos k0, if_pos k1, if_neg k2]
          rw [rd_a hi (by omega), ro]
          have hf := flt_eq (pg := pg) (n := n) (r := 4 * i + 2) (by omega) p2 (Or.inr (f2.trans k2'))
          exact rdOK_no hf (whl_no hf (fun k hk => by rw [show k = 4 * i by omega]; exact (kOk_59 k0).1))
      · have k1' : dgt (cd pg n (4 * i + 1)) 0 = false := by revert k1; cases dgt (cd pg n (4 * i + 1)) 0 <;> simp
        have ro : rdO pg n (4 * i) = 4 * i + 1 := by unfold rdO; rw [if_pos k0, if_neg k1]
        rw [rd_a hi (by omega), ro]
        have hf := flt_eq (pg := pg) (n := n) (r := 4 * i + 1) (by omega) p1 (Or.inr (f1.trans k1'))
        exact rdOK_no hf (whl_no hf (fun k hk => hno k (by omega)))
    · have k0' : kOk (cd pg n (4 * i)) = false := by revert k0; cases kOk (cd pg n (4 * i)) <;> simp
      have ro : rdO pg n (4 * i) = 4 * i := by unfold rdO; rw [if_neg k0]
      rw [rd_a hi (by omega), ro]
      have hf := flt_eq (pg := pg) (n := n) (r := 4 * i) (by omega) hp (Or.inr (f0.trans k0'))
      exact rdOK_no hf (whl_no hf (fun k hk => hno k (by omega)))
theorem rd_all (pg : Nat → Nat) (n : Nat) : rdOK pg n (rdF pg n 4 0) := rd_spec 4 0 rfl (by omega) (fun k hk => by omega) rfl (by decide)
end RDF
