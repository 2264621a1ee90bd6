/-! THE TWO STATES: the class's (g, q, bt) and the reference's (gm, qm, kb) say the same -/
section BITS
theorem sh_bit0 : ∀ i, i < 31 → ∀ k, k < 32 → (nI 1 <<< (nI i &&& 31)).toBitVec.getLsbD k = decide (k = i) := by decide +kernel
theorem sh_bit {i k : Nat} (hi : i < 31) (hk : k < 32) : (nI 1 <<< (nI i &&& 31)).toBitVec.getLsbD k = decide (k = i) := sh_bit0 i hi k hk
theorem bbF_bit {b : Nat → Bool} : ∀ n, n ≤ 31 → ∀ k, k < 32 → (bbF b n).toBitVec.getLsbD k = (decide (k < n) && b k)
  | 0, _, k, hk => by
    have : (nI 0).toBitVec = 0#32 := rfl
    show (nI 0).toBitVec.getLsbD k = _
    rw [this]
    simp
  | n + 1, h, k, hk => by
    have ih := bbF_bit (b := b) n (by omega) k hk
    rw [bbF]
    by_cases hb : b n = true
    · rw [if_pos hb, Int32.toBitVec_or, BitVec.getLsbD_or, ih, sh_bit (by omega) hk]
      by_cases e : k = n
      · subst e
        simp [hb]
      · rw [decide_eq_false e, Bool.or_false]
        congr 1
        exact decide_eq_decide.mpr (by omega)
    · rw [if_neg hb, ih]
      by_cases e : k = n
      · subst e
        rw [show b k = false by revert hb; cases b k <;> simp]
        simp
      · congr 1
        exact decide_eq_decide.mpr (by omega)
theorem bbF_and {p q r : Nat → Bool} {n : Nat} (hn : n ≤ 31) (h : ∀ k, k < n → r k = (p k && q k)) : bbF p n &&& bbF q n = bbF r n := by
  apply Int32.toBitVec_inj.mp
  apply BitVec.eq_of_getLsbD_eq
  intro k hk
  rw [Int32.toBitVec_and, BitVec.getLsbD_and, bbF_bit n hn k hk, bbF_bit n hn k hk, bbF_bit n hn k hk]
  by_cases c : k < n
  · rw [decide_eq_true c, h k c]
    simp
  · rw [decide_eq_false c]
    simp
theorem bbF_ext {p q : Nat → Bool} : ∀ n, (∀ k, k < n → p k = q k) → bbF p n = bbF q n
  | 0, _ => rfl
  | n + 1, h => by rw [bbF, bbF, bbF_ext n (fun k hk => h k (by omega)), h n (by omega)]
theorem bbF_all {p : Nat → Bool} (h : ∀ k, k < 10 → p k = true) : bbF p 10 = nI 1023 := by
  rw [bbF_ext (q := fun _ => true) 10 h]
  decide +kernel
end BITS
section PAGE
variable {pg ph : Nat → Nat} {n : Nat}
theorem cd_ext (h : ∀ i, i < n → ph i = pg i) (i : Nat) : cd ph n i = cd pg n i := by
  unfold cd
  split
  · rename_i hi; exact h i hi
  · rfl
theorem fE_ext (h : ∀ i, i < n → ph i = pg i) : ∀ i, fE ph n i = fE pg n i
  | 0 => rfl
  | i + 1 => by rw [fE, fE, cd_ext h, fE_ext h i]
theorem fit_ext (h : ∀ i, i < n → ph i = pg i) : fit ph n = fit pg n := by
  funext i
  unfold fit ftA
  rw [fE_ext h, cd_ext h]
theorem flt_ext (h : ∀ i, i < n → ph i = pg i) : flt ph n = flt pg n := by
  unfold flt
  rw [fit_ext h]
theorem whl_ext (h : ∀ i, i < n → ph i = pg i) : whl ph n = whl pg n := by
  unfold whl
  rw [flt_ext h, cd_ext h]
end PAGE
def RG (g gm : Nat → Nat) : Prop := gm 0 = g 0 ∧ gm 1 = g 1 ∧ gm 2 = g 2 ∧ gm 3 = g 3 ∧ gm 4 = g 4 ∧ gm 5 = g 5 ∧ gm 9 = g 9
def RQ (n l : Nat) (q qm : Nat → Nat → Nat) : Prop := (∀ k, k < 7 → ∀ j, j < n → qm k j = q k j) ∧ ∀ i, i < l → qm 7 i = q 7 i
def RH (qm : Nat → Nat → Nat) (n : Nat) : Prop := ∀ k, k < n → qm 12 k < 4 ∧ qm 13 k ≤ 1 ∧ qm 14 k ≤ 1 ∧ qm 15 k ≤ 9
def RT (n : Nat) (b : Nat → Int32) (qm : Nat → Nat → Nat) (h : Nat) : Prop := ∀ j, j < n → b j = bbF (fun t => cdB qm j t h) 10
def RK (g : Nat → Nat) (q : Nat → Nat → Nat) (bt : Nat → Nat → Int32) (gm : Nat → Nat) (qm : Nat → Nat → Nat) (kb : Bool) : Prop :=
  (kb = false → g 6 = 0) ∧ (kb = true → gm 6 = g 6 ∧ g 6 ≠ 0) ∧ (kb = true → g 6 = g 4 → gm 7 = g 7 ∧ gm 8 = g 8 ∧ gm 10 = g 10 ∧ (∀ k, 8 ≤ k → k < 12 → ∀ j, j < g 0 → qm k j = q k j) ∧ RH (reh qm) (gm 8) ∧ RT (g 0) (bt 1) (reh qm) (gm 8))
def REL (g : Nat → Nat) (q : Nat → Nat → Nat) (bt : Nat → Nat → Int32) (gm : Nat → Nat) (qm : Nat → Nat → Nat) (kb : Bool) : Prop :=
  RG g gm ∧ RQ (g 0) (g 3) q qm ∧ RH qm (gm 2) ∧ RT (g 0) (bt 0) qm (gm 2) ∧ RK g q bt gm qm kb ∧ ∀ j, 4 ≤ j → q 4 j = 0 ∧ q 8 j = 0 ∧ q 9 j = 0
/-! what an answer stands on -/
section EXT
variable {g gm : Nat → Nat} {q qm : Nat → Nat → Nat} {n : Nat}
theorem cdB_ext {qa qb : Nat → Nat → Nat} {j t : Nat} (h0 : qa 0 j = qb 0 j) (h1 : qa 1 j = qb 1 j) : ∀ n, (∀ k, k < n → qa 12 k = qb 12 k ∧ qa 13 k = qb 13 k ∧ qa 14 k = qb 14 k ∧ qa 15 k = qb 15 k) → cdB qa j t n = cdB qb j t n
  | 0, _ => rfl
  | n + 1, h => by
    obtain ⟨a, b, c, d⟩ := h n (by omega)
    rw [cdB, cdB, cdB_ext h0 h1 n (fun k hk => h k (by omega)), h0, h1, a, b, c, d]
theorem tj_q {j : Nat} (h : RQ n 0 q qm) (hj : j < n) (d : Bool) (y : Nat) : tj qm j d y = tj q j d y := by
  unfold tj
  rw [h.1 0 (by decide) j hj, h.1 1 (by decide) j hj, h.1 3 (by decide) j hj]
theorem wg_q {j : Nat} (h : RQ n 0 q qm) (hj : j < n) (ch : Bool) (y : Nat) (v : Nat → Nat) : wg qm j ch y v = wg q j ch y v := by
  funext i
  unfold wg
  rw [tj_q h hj]
theorem rb_q (h : RQ n 0 q qm) (y : Nat) : ∀ (m : Nat) (v : Nat → Nat), rb n qm y m v = rb n q y m v
  | 0, v => rfl
  | m + 1, v => by
    rw [rb, rb]
    refine mxn_ext n (fun e he => ?_)
    rw [wg_q h he, wg_q h he, rb_q h y m, rb_q h y m]
theorem rie_q (h : RQ n 0 q qm) {y m e : Nat} (v : Nat → Nat) (he : e < n) : rie n qm y m v e = rie n q y m v e := by
  unfold rie
  rw [wg_q h he, wg_q h he, rb_q h y m, rb_q h y m]
theorem bst_q (h : RQ n 0 q qm) {y : Nat} {v w : Nat → Nat} (hv : ∀ i, i < n → v i = w i) : ∀ m, bst n qm y v m = bst n q y w m
  | 0 => rfl
  | m + 1 => by
    show nI _ = nI _
    refine congrArg nI (amx_ext n (fun e he => ?_))
    rw [rie_q h v he]
    unfold rie
    rw [rb_ext m _ _ (fun i hi => wg_ext (hv i hi)), rb_ext m _ (wg q e false y w) (fun i hi => wg_ext (hv i hi))]
theorem ab_q {j : Nat} (h0 : gm 1 = g 1) (h : RQ n 0 q qm) (hj : j < n) (k : Nat) : ab gm qm j k = ab g q j k := by
  unfold ab
  rw [tj_q h hj, tj_q h hj, h.1 0 (by decide) j hj, h.1 1 (by decide) j hj, h.1 2 (by decide) j hj, h.1 3 (by decide) j hj, h.1 5 (by decide) j hj, h.1 6 (by decide) j hj, h0]
theorem ses_q (h : RQ n 0 q qm) (h0 : 0 < n) {y j sd : Nat} : ∀ t, ses n qm y j sd t = ses n q y j sd t
  | 0 => rfl
  | t + 1 => by
    rw [ses, ses, ses_q h h0 t]
    rw [tj_q h (Nat.mod_lt _ h0)]
theorem dry1_q (h : RQ n 0 q qm) {j : Nat} (hj : j < n) {v w : Nat → Nat} (hv : ∀ i, i < n → v i = w i) (i : Nat) : dry1 n qm v j i = dry1 n q w j i := by
  unfold dry1
  rw [wg_q h hj, wg_q h hj, mxn_ext n (fun i hi => wg_ext (hv i hi)), mxn_ext n (fun i hi => wg_ext (ch := false) (hv i hi))]
theorem dri_q (h0 : gm 0 = g 0) (h : RQ (g 0) 0 q qm) {j : Nat} (hj : j < g 0) (k : Nat) : dri gm qm j k = dri g q j k := by
  have hv : ∀ i, i < g 0 → qm 4 i = q 4 i := h.1 4 (by decide)
  unfold dri
  rw [h0, amx_ext 9 (fun i _ => dry1_q h hj hv i), mxn_ext 9 (fun i _ => dry1_q h hj hv i), sm_ext (g 0) hv]
theorem cn_q (hg : RG g gm) (h : RQ (g 0) 0 q qm) (k : Nat) : cn gm qm k = cn g q k := by
  obtain ⟨h0, h1, h2, h3, h4, h5, h9⟩ := hg
  unfold cn
  rw [h0, h1, h2, h3, h4, h5, h9, sm_ext (g 0) (h.1 6 (by decide)), sm_ext (g 0) (h.1 3 (by decide))]
end EXT
