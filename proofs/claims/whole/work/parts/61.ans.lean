/-! THE ANSWERS are the same -/
section ANS
variable {g gm : Nat → Nat} {q qm : Nat → Nat → Nat} {bt : Nat → Nat → Int32} {kb : Bool}
theorem REL.g0 (h : REL g q bt gm qm kb) : gm 0 = g 0 := h.1.1
theorem REL.g1 (h : REL g q bt gm qm kb) : gm 1 = g 1 := h.1.2.1
theorem REL.g2 (h : REL g q bt gm qm kb) : gm 2 = g 2 := h.1.2.2.1
theorem REL.g3 (h : REL g q bt gm qm kb) : gm 3 = g 3 := h.1.2.2.2.1
theorem REL.g4 (h : REL g q bt gm qm kb) : gm 4 = g 4 := h.1.2.2.2.2.1
theorem REL.g5 (h : REL g q bt gm qm kb) : gm 5 = g 5 := h.1.2.2.2.2.2.1
theorem REL.g9 (h : REL g q bt gm qm kb) : gm 9 = g 9 := h.1.2.2.2.2.2.2
theorem REL.q0 (h : REL g q bt gm qm kb) : RQ (g 0) 0 q qm := ⟨h.2.1.1, fun i hi => absurd hi (Nat.not_lt_zero i)⟩
theorem REL.w (h : REL g q bt gm qm kb) : ∀ i, i < g 0 → qm 4 i = q 4 i := h.2.1.1 4 (by decide)
theorem REL.pg (h : REL g q bt gm qm kb) : ∀ i, i < g 3 → qm 7 i = q 7 i := h.2.1.2
theorem REL.bits (h : REL g q bt gm qm kb) {j : Nat} (hj : j < g 0) : ybt gm qm 0 j = bt 0 j := (h.2.2.2.1 j hj).symm
theorem REL.yi (hX : XI g q) (h : REL g q bt gm qm kb) : YI gm qm := by
  have e0 := h.g0
  have e1 := h.g1
  have e2 := h.g2
  have e3 := h.g3
  have e5 := h.g5
  have e9 := h.g9
  have hn := hX.n
  have hn2 := hX.n2
  have hd := hX.dry
  have hh := hX.hd
  have hp := hX.pl
  have hr := hX.ri
  have ha := hX.at
  refine ⟨by omega, by omega, fun j hj => ?_, fun hp => ?_, by omega, by omega, by omega, by omega, by omega, fun i hi => ?_, h.2.2.1⟩
  · rw [e0] at hj
    rw [h.q0.1 0 (by decide) j hj, h.q0.1 1 (by decide) j hj, h.q0.1 3 (by decide) j hj, h.w j hj]
    exact ⟨(hX.per j hj).1, (hX.per j hj).2.1, hX.bu j, hX.w6 j⟩
  · rw [e0] at hp ⊢
    rw [sm_ext (g 0) h.w]
    exact hX.pos hp
  · rw [e3] at hi
    rw [h.pg i hi]
    exact hX.pg i hi
theorem a_about (h : REL g q bt gm qm kb) (x y : Int32) : F_about gm qm x y = F_about g q x y := by
  unfold F_about
  rw [h.g0]
  cases e : ix (g 0) x with
  | none => rfl
  | some j =>
    dsimp only
    cases ix 9 y with
    | none => rfl
    | some k => exact ab_q h.g1 h.q0 (ix_some e).1 k
theorem a_as (h : REL g q bt gm qm kb) (x y : Int32) : F_as gm qm x y = F_as g q x y := by
  unfold F_as
  rw [h.g0]
  cases e : ix (g 0) x with
  | none => rfl
  | some j =>
    dsimp only
    rw [h.q0.1 0 (by decide) j (ix_some e).1]
theorem a_butter (h : REL g q bt gm qm kb) (x y : Int32) : F_butter gm qm x y = F_butter g q x y := by
  unfold F_butter
  rw [h.g0]
  cases e : ix (g 0) x with
  | none => rfl
  | some j =>
    dsimp only
    rw [h.q0.1 3 (by decide) j (ix_some e).1]
theorem a_loaf (h : REL g q bt gm qm kb) (y : Int32) : F_loaf gm y = F_loaf g y := by
  unfold F_loaf
  rw [h.g0, h.g1]
theorem wg_r (h : REL g q bt gm qm kb) {j : Nat} (hj : j < g 0) (ch : Bool) : ∀ i, i < g 0 → wg qm j ch (gm 1) (qm 4) i = wg q j ch (g 1) (q 4) i := fun i hi => by
  rw [wg_q h.q0 hj, h.g1]
  exact wg_ext (h.w i hi)
theorem gcs_r (h : REL g q bt gm qm kb) {j : Nat} (hj : j < g 0) (ch : Bool) : gcs (wg qm j ch (gm 1) (qm 4)) (gm 0) = gcs (wg q j ch (g 1) (q 4)) (g 0) := by
  rw [h.g0]
  exact gcs_ext _ (wg_r h hj ch)
theorem mxn_r (h : REL g q bt gm qm kb) {j : Nat} (hj : j < g 0) (ch : Bool) : mxn (wg qm j ch (gm 1) (qm 4)) (gm 0) = mxn (wg q j ch (g 1) (q 4)) (g 0) := by
  rw [h.g0]
  exact mxn_ext _ (wg_r h hj ch)
theorem a_eat (h : REL g q bt gm qm kb) (x : Int32) (ch : Bool) : F_eat gm qm x ch = F_eat g q x ch := by
  unfold F_eat
  rw [show ix (gm 0) x = ix (g 0) x by rw [h.g0]]
  cases e : ix (g 0) x with
  | none => rfl
  | some j =>
    have hj := (ix_some e).1
    dsimp only
    rw [mxn_r h hj, gcs_r h hj, h.g9, h.g0, amx_ext (g 0) (fun i hi => by rw [wg_r h hj ch i hi])]
theorem eats_r (h : REL g q bt gm qm kb) {j : Nat} (hj : j < g 0) (ch : Bool) : eats gm qm j ch = eats g q j ch := by
  unfold eats
  rw [mxn_r h hj, h.g9]
theorem a_belief (h : REL g q bt gm qm kb) (x y : Int32) : F_belief gm qm x y = F_belief g q x y := by
  unfold F_belief
  rw [h.g0]
  cases e : ix (g 0) x with
  | none => rfl
  | some j =>
    dsimp only
    rw [h.w j (ix_some e).1, sm_ext (g 0) h.w]
theorem a_judged (h : REL g q bt gm qm kb) : F_judged gm qm = F_judged g q := by
  unfold F_judged
  rw [h.g0, amx_ext (g 0) h.w]
theorem a_right (h : REL g q bt gm qm kb) (x y : Int32) : F_right gm qm x y = F_right g q x y := by
  unfold F_right
  rw [h.g0, h.g5, h.g1, sm_ext (g 0) h.w]
  cases ix 4 x with
  | none => rfl
  | some m =>
    dsimp only
    rw [rb_q h.q0, rb_ext m _ _ h.w, bst_q h.q0 h.w]
theorem a_driest (h : REL g q bt gm qm kb) (x y : Int32) : F_driest gm qm x y = F_driest g q x y := by
  unfold F_driest
  rw [show ix (gm 0) x = ix (g 0) x by rw [h.g0]]
  cases e : ix (g 0) x with
  | none => rfl
  | some j =>
    dsimp only
    cases ix 3 y with
    | none => rfl
    | some k => exact dri_q h.g0 h.q0 (ix_some e).1 k
theorem a_hear (h : REL g q bt gm qm kb) (x : Int32) : F_hear gm x = F_hear g x := by
  unfold F_hear
  rw [h.g0, h.g2]
theorem a_buttered (h : REL g q bt gm qm kb) (x : Int32) : F_buttered gm (ybt gm qm) x = F_buttered g bt x := by
  unfold F_buttered
  rw [h.g0]
  cases e : ix (g 0) x with
  | none => rfl
  | some j => exact h.bits (ix_some e).1
theorem a_sessions (h : REL g q bt gm qm kb) (x t sd y : Int32) : F_sessions gm qm x t sd y = F_sessions g q x t sd y := by
  unfold F_sessions
  rw [h.g0, h.g1]
  cases e : ix (g 0) x with
  | none => rfl
  | some j =>
    have hj := (ix_some e).1
    have hs : ∀ d k, ses (g 0) qm (g 1) j d k = ses (g 0) q (g 1) j d k := fun d k => ses_q h.q0 (by omega) k
    simp only [hs]
theorem a_count (h : REL g q bt gm qm kb) (y : Int32) : F_count gm qm y = F_count g q y := by
  unfold F_count
  cases ix 9 y with
  | none => rfl
  | some k => exact cn_q h.1 h.q0 k
theorem dga_q (h : REL g q bt gm qm kb) {j : Nat} (hj : j < g 0) (H : Int64) : ∀ k, dga gm qm j H k = dga g q j H k
  | 0 => rfl
  | k + 1 => by rw [dga, dga, dga_q h hj H k, ab_q h.g1 h.q0 hj]
theorem dgd_q (h : REL g q bt gm qm kb) {j : Nat} (hj : j < g 0) (H : Int64) : ∀ k, dgd gm qm j H k = dgd g q j H k
  | 0 => rfl
  | k + 1 => by rw [dgd, dgd, dgd_q h hj H k, dri_q h.g0 h.q0 hj]
theorem dgn_q (h : REL g q bt gm qm kb) : ∀ j, j ≤ g 0 → dgn gm qm (ybt gm qm) j = dgn g q bt j
  | 0, _ => rfl
  | j + 1, hj => by
    rw [dgn, dgn, dgn_q h j (by omega)]
    unfold dg1
    rw [dga_q h (by omega), dgd_q h (by omega), h.w j (by omega), h.g0, sm_ext (g 0) h.w, h.bits (by omega)]
theorem dgp_q (h : REL g q bt gm qm kb) (H : Int64) : ∀ i, i ≤ g 3 → dgp qm H i = dgp q H i
  | 0, _ => rfl
  | i + 1, hi => by rw [dgp, dgp, dgp_q h H i (by omega), h.pg i (by omega)]
theorem dgc_q (h : REL g q bt gm qm kb) (H : Int64) : ∀ k, dgc gm qm H k = dgc g q H k
  | 0 => rfl
  | k + 1 => by rw [dgc, dgc, dgc_q h H k, cn_q h.1 h.q0]
theorem a_digest (h : REL g q bt gm qm kb) : F_digest gm qm (ybt gm qm) = F_digest g q bt := by
  unfold F_digest
  rw [dgc_q h, h.g3, dgp_q h _ _ (Nat.le_refl _), h.g0, dgn_q h _ (Nat.le_refl _), amx_ext (g 0) h.w]
theorem a_letter (h : REL g q bt gm qm kb) (y : Int32) : F_letter gm y = F_letter g y := by
  unfold F_letter
  rw [h.g3]
theorem a_fault (h : REL g q bt gm qm kb) : flt (qm 7) (gm 3) = flt (q 7) (g 3) := by
  rw [h.g3]
  exact flt_ext h.pg
theorem whl_r (h : REL g q bt gm qm kb) : whl (qm 7) (gm 3) = whl (q 7) (g 3) := by
  rw [h.g3]
  exact whl_ext h.pg
theorem a_court (h : REL g q bt gm qm kb) : F_court gm qm = F_court g q := by
  unfold F_court crm
  rw [whl_r h, h.g3]
theorem a_image (h : REL g q bt gm qm kb) : F_image gm = F_image g := by
  unfold F_image
  rw [h.g0, h.g9]
/-- when the image may come back, said by either -/
theorem kept_r (h : REL g q bt gm qm kb) : (kb = false ∨ gm 6 ≠ gm 4) ↔ (g 6 = 0 ∨ g 6 ≠ g 4) := by
  obtain ⟨k1, k2, -⟩ := h.2.2.2.2.1
  have := h.g4
  cases kb with
  | false => exact ⟨fun _ => Or.inl (k1 rfl), fun _ => Or.inl rfl⟩
  | true =>
    obtain ⟨a, b⟩ := k2 rfl
    constructor
    · rintro (x | x)
      · cases x
      · exact Or.inr (by omega)
    · rintro (x | x)
      · exact absurd x b
      · exact Or.inr (by omega)
theorem a_restore (h : REL g q bt gm qm kb) : F_restm gm kb = F_restore g := by
  unfold F_restm F_restore
  by_cases c : g 6 = 0 ∨ g 6 ≠ g 4
  · rw [if_pos c, if_pos ((kept_r h).mpr c)]
  · rw [if_neg c, if_neg (fun x => c ((kept_r h).mp x))]
    have kt : kb = true := by
      cases kb with
      | true => rfl
      | false => exact absurd (Or.inl (h.2.2.2.2.1.1 rfl)) c
    rw [(h.2.2.2.2.1.2.2 kt (by omega)).2.2.1]
end ANS
