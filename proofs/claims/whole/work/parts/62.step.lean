/-! THE STEPS: what always holds, holds again -/
theorem fq_ne {q : Nat → Nat → Nat} {a k : Nat} {f : Nat → Nat} (h : k ≠ a) : fq q a f k = q k := by
  unfold fq
  rw [show Nat.beq k a = false from by
    cases hb : Nat.beq k a with
    | false => rfl
    | true => exact absurd (Nat.eq_of_beq_eq_true hb) h]
  rfl
section STP
variable {g gm : Nat → Nat} {q qm : Nat → Nat → Nat} {bt : Nat → Nat → Int32} {kb : Bool}
variable {g' gm' : Nat → Nat} {q' qm' : Nat → Nat → Nat} {bt' : Nat → Nat → Int32}
theorem RT.to {n hh : Nat} {b : Nat → Int32} {qa qb : Nat → Nat → Nat} (h : RT n b qa hh) (h0 : ∀ j, j < n → qb 0 j = qa 0 j) (h1 : ∀ j, j < n → qb 1 j = qa 1 j) (hr : ∀ k, k < hh → qb 12 k = qa 12 k ∧ qb 13 k = qa 13 k ∧ qb 14 k = qa 14 k ∧ qb 15 k = qa 15 k) : RT n b qb hh := fun j hj => by
  rw [h j hj]
  exact (bbF_ext 10 (fun t _ => cdB_ext (h0 j hj) (h1 j hj) hh hr)).symm
theorem REL.k8 (hX : XI g q) (h : REL g q bt gm qm kb) (hk : kb = true) (h6 : g 6 = g 4) : gm 8 ≤ 6 := by
  have a := (h.2.2.2.2.1.2.1 hk).2
  have b := (hX.k h6 (by omega)).2.2.2.2.2.1
  rw [(h.2.2.2.2.1.2.2 hk h6).2.1]
  exact b
theorem RK.to (hX : XI g q) (h : REL g q bt gm qm kb) (e0 : g' 0 = g 0) (e4 : g' 4 = g 4) (e6 : g' 6 = g 6) (e7 : g' 7 = g 7) (e8 : g' 8 = g 8) (e10 : g' 10 = g 10) (m6 : gm' 6 = gm 6) (m7 : gm' 7 = gm 7) (m8 : gm' 8 = gm 8) (m10 : gm' 10 = gm 10)
    (hq : ∀ k, 8 ≤ k → k < 12 → q' k = q k) (hqm : ∀ k, 8 ≤ k → k < 12 → qm' k = qm k) (h0 : ∀ j, j < g 0 → qm' 0 j = qm 0 j) (h1 : ∀ j, j < g 0 → qm' 1 j = qm 1 j) (hs : ∀ k, 16 ≤ k → k < 20 → qm' k = qm k) (hb : bt' 1 = bt 1) : RK g' q' bt' gm' qm' kb := by
  have h8 := fun hk h6 => REL.k8 hX h hk h6
  obtain ⟨k1, k2, k3⟩ := h.2.2.2.2.1
  unfold RK
  rw [e0, e4, e6, e7, e8, e10, m6, m7, m8, m10, hb]
  refine ⟨k1, k2, fun hk h6 => ?_⟩
  have h9 := h8 hk h6
  obtain ⟨a, b, c, d, e, f⟩ := k3 hk h6
  have hr : ∀ k, k < gm 8 → reh qm' 12 k = reh qm 12 k ∧ reh qm' 13 k = reh qm 13 k ∧ reh qm' 14 k = reh qm 14 k ∧ reh qm' 15 k = reh qm 15 k := fun k hk => by
    have i1 : reh qm' 12 k = ff (qm' 16) (qm' 12) 6 k := rfl
    have i2 : reh qm' 13 k = ff (qm' 17) (qm' 13) 6 k := rfl
    have i3 : reh qm' 14 k = ff (qm' 18) (qm' 14) 6 k := rfl
    have i4 : reh qm' 15 k = ff (qm' 19) (qm' 15) 6 k := rfl
    have j1 : reh qm 12 k = ff (qm 16) (qm 12) 6 k := rfl
    have j2 : reh qm 13 k = ff (qm 17) (qm 13) 6 k := rfl
    have j3 : reh qm 14 k = ff (qm 18) (qm 14) 6 k := rfl
    have j4 : reh qm 15 k = ff (qm 19) (qm 15) 6 k := rfl
    rw [i1, i2, i3, i4, j1, j2, j3, j4, ff_in (by omega), ff_in (by omega), ff_in (by omega), ff_in (by omega), ff_in (by omega), ff_in (by omega), ff_in (by omega), ff_in (by omega), hs 16 (by decide) (by decide), hs 17 (by decide) (by decide), hs 18 (by decide) (by decide), hs 19 (by decide) (by decide)]
    exact ⟨rfl, rfl, rfl, rfl⟩
  refine ⟨a, b, c, fun k x y j hj => ?_, fun k hk => ?_, RT.to f (fun j hj => h0 j hj) (fun j hj => h1 j hj) hr⟩
  · rw [hq k x y, hqm k x y]
    exact d k x y j hj
  · obtain ⟨r1, r2, r3, r4⟩ := hr k hk
    rw [r1, r2, r3, r4]
    exact e k hk
/-- both states as they should be -/
def BOTH (g : Nat → Nat) (q : Nat → Nat → Nat) (bt : Nat → Nat → Int32) (gm : Nat → Nat) (qm : Nat → Nat → Nat) (kb : Bool) : Prop := XI g q ∧ REL g q bt gm qm kb
theorem s_letter (h : BOTH g q bt gm qm kb) (y : Int32) : BOTH (N_letterg g y) (N_letterq g q y) bt (N_letterg gm y) (N_letterq gm qm y) kb := by
  unfold N_letterg N_letterq
  cases e : ixc y with
  | none => exact h
  | some c =>
    obtain ⟨hX, hR⟩ := h
    obtain ⟨c1, c2, -⟩ := ixc_some e
    have e3 := hR.g3
    dsimp only
    by_cases hl : g 3 < 18
    · rw [if_pos hl, if_pos hl, if_pos (by omega), if_pos (by omega)]
      refine ⟨⟨hX.n, hX.n2, hX.per, hX.bu, hX.w, hX.z, hX.pos, hX.dry, hX.hd, (show g 3 + 1 ≤ 18 by omega), hX.ri, hX.at, hX.ats, fun i hi => ?_, hX.kc, hX.k, hX.c⟩, ⟨hR.g0, hR.g1, hR.g2, (show gm 3 + 1 = g 3 + 1 by omega), hR.g4, hR.g5, hR.g9⟩, ⟨fun k hk j hj => ?_, fun i hi => ?_⟩, hR.2.2.1, RT.to hR.2.2.2.1 (fun _ _ => rfl) (fun _ _ => rfl) (fun _ _ => ⟨rfl, rfl, rfl, rfl⟩), RK.to hX hR rfl rfl rfl rfl rfl rfl rfl rfl rfl rfl (fun k _ _ => fq_ne (by omega)) (fun k _ _ => fq_ne (by omega)) (fun _ _ => rfl) (fun _ _ => rfl) (fun k _ _ => fq_ne (by omega)) rfl, hR.2.2.2.2.2⟩
      · show 32 ≤ fu (q 7) (g 3) c i ∧ fu (q 7) (g 3) c i ≤ 126
        have hi : i < g 3 + 1 := hi
        unfold fu
        by_cases x : i = g 3
        · rw [if_pos x]; exact ⟨c1, c2⟩
        · rw [if_neg x]; exact hX.pg i (by omega)
      · rw [fq_ne (by omega), fq_ne (by omega)]
        exact hR.2.1.1 k hk j hj
      · show fu (qm 7) (gm 3) c i = fu (q 7) (g 3) c i
        have hi : i < g 3 + 1 := hi
        unfold fu
        rw [e3]
        by_cases x : i = g 3
        · rw [if_pos x, if_pos x]
        · rw [if_neg x, if_neg x]; exact hR.pg i (by omega)
    · rw [if_neg hl, if_neg hl, if_neg (by omega), if_neg (by omega)]
      exact ⟨hX, hR⟩
theorem s_blank (h : BOTH g q bt gm qm kb) : BOTH (fg g 3 0) q bt (fg gm 3 0) qm kb := by
  obtain ⟨hX, hR⟩ := h
  exact ⟨⟨hX.n, hX.n2, hX.per, hX.bu, hX.w, hX.z, hX.pos, hX.dry, hX.hd, (show 0 ≤ 18 by decide), hX.ri, hX.at, hX.ats, fun i hi => absurd hi (Nat.not_lt_zero i), hX.kc, hX.k, hX.c⟩, ⟨hR.g0, hR.g1, hR.g2, rfl, hR.g4, hR.g5, hR.g9⟩, ⟨hR.2.1.1, fun i hi => absurd hi (Nat.not_lt_zero i)⟩, hR.2.2.1, hR.2.2.2.1, RK.to hX hR rfl rfl rfl rfl rfl rfl rfl rfl rfl rfl (fun _ _ _ => rfl) (fun _ _ _ => rfl) (fun _ _ => rfl) (fun _ _ => rfl) (fun _ _ _ => rfl) rfl, hR.2.2.2.2.2⟩
theorem s_butter (h : BOTH g q bt gm qm kb) (x y : Int32) : BOTH g (N_butter g q x y) bt gm (N_butter gm qm x y) kb := by
  unfold N_butter
  rw [h.2.g0]
  cases e : ix (g 0) x with
  | none => exact h
  | some j =>
    dsimp only
    cases e2 : ix 10 y with
    | none => exact h
    | some b =>
      obtain ⟨hX, hR⟩ := h
      have hj := (ix_some e).1
      have hb := (ix_some e2).1
      dsimp only
      refine ⟨⟨hX.n, hX.n2, hX.per, fun i => ?_, hX.w, fun i h1 h2 => ⟨?_, (hX.z i h1 h2).2⟩, hX.pos, hX.dry, hX.hd, hX.pl, hX.ri, hX.at, hX.ats, hX.pg, hX.kc, hX.k, hX.c⟩, hR.1, ⟨fun k hk i hi => ?_, hR.2.1.2⟩, hR.2.2.1, RT.to hR.2.2.2.1 (fun _ _ => rfl) (fun _ _ => rfl) (fun _ _ => ⟨rfl, rfl, rfl, rfl⟩), RK.to hX hR rfl rfl rfl rfl rfl rfl rfl rfl rfl rfl (fun k _ _ => fq_ne (by omega)) (fun k _ _ => fq_ne (by omega)) (fun _ _ => rfl) (fun _ _ => rfl) (fun k _ _ => fq_ne (by omega)) rfl, hR.2.2.2.2.2⟩
      · show fu (q 3) j b i ≤ 9
        unfold fu
        split
        · omega
        · exact hX.bu i
      · show fu (q 3) j b i = 0
        rw [fu_n (by omega)]
        exact (hX.z i h1 h2).1
      · by_cases c : k = 3
        · subst c
          show fu (qm 3) j b i = fu (q 3) j b i
          unfold fu
          rw [hR.2.1.1 3 (by decide) i hi]
        · rw [fq_ne c, fq_ne c]
          exact hR.2.1.1 k hk i hi
theorem ix1_le {y : Int32} {b : Nat} (h : ix1 y = some b) : 1 ≤ b ∧ b ≤ 9 := by
  unfold ix1 at h
  split at h
  · rename_i b' hb
    have := (ix_some hb).1
    have := Option.some.inj h
    omega
  · cases h
theorem s_loaf (h : BOTH g q bt gm qm kb) (y : Int32) : BOTH (N_loaf g y) q bt (N_loaf gm y) qm kb := by
  unfold N_loaf
  cases e : ix1 y with
  | none => exact h
  | some b =>
    obtain ⟨hX, hR⟩ := h
    have hb := ix1_le e
    have e0 := hR.g0
    dsimp only
    by_cases c : g 0 = 0
    · rw [if_pos c, if_pos (by omega)]
      exact ⟨hX, hR⟩
    · rw [if_neg c, if_neg (by omega)]
      exact ⟨⟨hX.n, hX.n2, hX.per, hX.bu, hX.w, hX.z, hX.pos, hb.2, hX.hd, hX.pl, hX.ri, hX.at, hX.ats, hX.pg, hX.kc, hX.k, hX.c⟩, ⟨hR.g0, rfl, hR.g2, hR.g3, hR.g4, hR.g5, hR.g9⟩, hR.2.1, hR.2.2.1, hR.2.2.2.1, RK.to hX hR rfl rfl rfl rfl rfl rfl rfl rfl rfl rfl (fun _ _ _ => rfl) (fun _ _ _ => rfl) (fun _ _ => rfl) (fun _ _ => rfl) (fun _ _ _ => rfl) rfl, hR.2.2.2.2.2⟩
theorem s_right (h : BOTH g q bt gm qm kb) (x y : Int32) : BOTH (N_right g x y) q bt (N_right gm x y) qm kb := by
  unfold N_right
  cases ix 4 x with
  | none => exact h
  | some m =>
    dsimp only
    cases ix 3 y with
    | none => exact h
    | some k =>
      obtain ⟨hX, hR⟩ := h
      have e0 := hR.g0
      have e5 := hR.g5
      dsimp only
      by_cases c : g 0 = 0 ∨ 20 ≤ g 5
      · rw [if_pos c, if_pos (by omega)]
        exact ⟨hX, hR⟩
      · rw [if_neg c, if_neg (by omega)]
        exact ⟨XI_right hX (by omega), ⟨hR.g0, hR.g1, hR.g2, hR.g3, hR.g4, (show gm 5 + 1 = g 5 + 1 by omega), hR.g9⟩, hR.2.1, hR.2.2.1, hR.2.2.2.1, RK.to hX hR rfl rfl rfl rfl rfl rfl rfl rfl rfl rfl (fun _ _ _ => rfl) (fun _ _ _ => rfl) (fun _ _ => rfl) (fun _ _ => rfl) (fun _ _ _ => rfl) rfl, hR.2.2.2.2.2⟩
theorem s_forget (h : BOTH g q bt gm qm kb) : BOTH (fg g 2 0) q (fb bt 0 (fr (fun _ => nI 1023) (bt 0) 4)) (fg gm 2 0) qm kb := by
  obtain ⟨hX, hR⟩ := h
  have hn := hX.n
  refine ⟨⟨hX.n, hX.n2, hX.per, hX.bu, hX.w, hX.z, hX.pos, hX.dry, (show 0 ≤ 6 by decide), hX.pl, hX.ri, hX.at, hX.ats, hX.pg, hX.kc, hX.k, hX.c⟩, ⟨hR.g0, hR.g1, rfl, hR.g3, hR.g4, hR.g5, hR.g9⟩, hR.2.1, fun k hk => absurd hk (Nat.not_lt_zero k), fun j hj => ?_, RK.to hX hR rfl rfl rfl rfl rfl rfl rfl rfl rfl rfl (fun _ _ _ => rfl) (fun _ _ _ => rfl) (fun _ _ => rfl) (fun _ _ => rfl) (fun _ _ _ => rfl) rfl, hR.2.2.2.2.2⟩
  have hj : j < g 0 := hj
  show fr (fun _ => nI 1023) (bt 0) 4 j = bbF (fun t => cdB qm j t 0) 10
  rw [bbF_all (p := fun t => cdB qm j t 0) (fun _ _ => rfl)]
  unfold fr
  rw [if_pos (by omega)]
theorem okB_is {k f y t : Nat} {did ch : Bool} {dv cv : Nat} (hd : dv = if did then 1 else 0) (hc : cv = if ch then 1 else 0) : decide (tn (dn k f (decide (dv = 1))) y t ≠ if cv = 1 then 0 else 10) = okB k f did ch y t := by
  have e1 : decide (dv = 1) = did := by subst hd; cases did <;> rfl
  rw [e1]
  have h10 := tn_le (dn k f did) y t
  unfold okB
  cases ch with
  | true =>
    rw [if_pos (show cv = 1 by rw [hc]; rfl), if_pos rfl]
    exact decide_eq_decide.mpr (by omega)
  | false =>
    rw [if_neg (show ¬ cv = 1 by rw [hc]; decide), if_neg (by decide)]
    exact decide_eq_decide.mpr (by omega)
theorem s_hear (h : BOTH g q bt gm qm kb) (x : Int32) (did ch : Bool) : BOTH (N_hearg g x) q (N_hearb g q bt x did ch) (N_hearg gm x) (mhq gm qm x did ch) kb := by
  unfold N_hearg N_hearb mhq
  rw [h.2.g0]
  cases e : ix (g 0) x with
  | none => exact h
  | some j =>
    obtain ⟨hX, hR⟩ := h
    have hj := (ix_some e).1
    have e2 := hR.g2
    have hn := hX.n
    have hh := hX.hd
    dsimp only
    by_cases c : 6 ≤ g 2
    · rw [if_pos c, if_pos c, if_pos (by omega), if_pos (by omega)]
      exact ⟨hX, hR⟩
    · rw [if_neg c, if_neg c, if_neg (by omega), if_neg (by omega)]
      refine ⟨⟨hX.n, hX.n2, hX.per, hX.bu, hX.w, hX.z, hX.pos, hX.dry, (show g 2 + 1 ≤ 6 by omega), hX.pl, hX.ri, hX.at, hX.ats, hX.pg, hX.kc, hX.k, hX.c⟩, ⟨hR.g0, hR.g1, (show gm 2 + 1 = g 2 + 1 by omega), hR.g3, hR.g4, hR.g5, hR.g9⟩, ⟨fun k hk i hi => ?_, hR.2.1.2⟩, fun k hk => ?_, fun i hi => ?_, RK.to hX hR rfl rfl rfl rfl rfl rfl rfl rfl rfl rfl (fun _ _ _ => rfl) (fun k _ _ => ?_) (fun _ _ => rfl) (fun _ _ => rfl) (fun k _ _ => ?_) rfl, hR.2.2.2.2.2⟩
      · rw [fq_ne (by omega), fq_ne (by omega), fq_ne (by omega), fq_ne (by omega)]
        exact hR.2.1.1 k hk i hi
      · have hk : k < gm 2 + 1 := hk
        show fu (qm 12) (gm 2) j k < 4 ∧ fu (qm 13) (gm 2) (if did then 1 else 0) k ≤ 1 ∧ fu (qm 14) (gm 2) (if ch then 1 else 0) k ≤ 1 ∧ fu (qm 15) (gm 2) (gm 1) k ≤ 9
        by_cases x : k = gm 2
        · subst x
          rw [fu_s, fu_s, fu_s, fu_s, hR.g1]
          have := hX.dry
          refine ⟨by omega, ?_, ?_, this⟩
          · cases did <;> decide
          · cases ch <;> decide
        · rw [fu_n x, fu_n x, fu_n x, fu_n x]
          exact hR.2.2.1 k (by omega)
      · have hi : i < g 0 := hi
        have old := hR.2.2.2.1 i hi
        have low : ∀ t, cdB (fq (fq (fq (fq qm 12 (fu (qm 12) (gm 2) j)) 13 (fu (qm 13) (gm 2) (if did then 1 else 0))) 14 (fu (qm 14) (gm 2) (if ch then 1 else 0))) 15 (fu (qm 15) (gm 2) (gm 1))) i t (gm 2) = cdB qm i t (gm 2) := fun t => by
          refine cdB_ext ?_ ?_ (gm 2) ?_
          · rfl
          · rfl
          · exact (fun k hk => ⟨fu_n (show k ≠ gm 2 by omega), fu_n (show k ≠ gm 2 by omega), fu_n (show k ≠ gm 2 by omega), fu_n (show k ≠ gm 2 by omega)⟩)
        have top : ∀ t, cdB (fq (fq (fq (fq qm 12 (fu (qm 12) (gm 2) j)) 13 (fu (qm 13) (gm 2) (if did then 1 else 0))) 14 (fu (qm 14) (gm 2) (if ch then 1 else 0))) 15 (fu (qm 15) (gm 2) (gm 1))) i t (gm 2 + 1) = (cdB qm i t (gm 2) && (decide (j ≠ i) || okB (q 0 i) (q 1 i) did ch (g 1) t)) := fun t => by
          rw [cdB, low t]
          congr 1
          show (decide (fu (qm 12) (gm 2) j (gm 2) ≠ i) || decide (tn (dn (qm 0 i) (qm 1 i) (decide (fu (qm 13) (gm 2) (if did then 1 else 0) (gm 2) = 1))) (fu (qm 15) (gm 2) (gm 1) (gm 2)) t ≠ if fu (qm 14) (gm 2) (if ch then 1 else 0) (gm 2) = 1 then 0 else 10)) = _
          rw [fu_s, fu_s, fu_s, fu_s, okB_is rfl rfl, hR.2.1.1 0 (by decide) i hi, hR.2.1.1 1 (by decide) i hi, hR.g1]
        show upd (bt 0) j (bt 0 j &&& bbF (okB (q 0 j) (q 1 j) did ch (g 1)) 10) i = bbF (fun t => cdB _ i t (gm 2 + 1)) 10
        rw [bbF_ext 10 (fun t _ => top t)]
        unfold upd
        by_cases c2 : i = j
        · subst c2
          rw [if_pos rfl, old]
          refine bbF_and (by decide) (fun t _ => ?_)
          rw [decide_eq_false (show ¬ i ≠ i from fun hh => hh rfl), Bool.false_or]
        · rw [if_neg c2, old]
          refine bbF_ext 10 (fun t _ => ?_)
          rw [decide_eq_true (show j ≠ i from fun hh => c2 hh.symm), Bool.true_or, Bool.and_true]
      · rw [fq_ne (by omega), fq_ne (by omega), fq_ne (by omega), fq_ne (by omega)]
      · rw [fq_ne (by omega), fq_ne (by omega), fq_ne (by omega), fq_ne (by omega)]
end STP
