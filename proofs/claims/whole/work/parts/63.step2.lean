/-! eat, the image, its return, a court -/
theorem gcs_dvd {f : Nat → Nat} : ∀ n i, i < n → gcs f n ∣ f i
  | 0, i, h => absurd h (Nat.not_lt_zero i)
  | n + 1, i, h => by
    rw [gcs]
    rcases Nat.lt_or_ge i n with c | c
    · exact Nat.dvd_trans (Nat.gcd_dvd_left _ _) (gcs_dvd n i c)
    · rw [show i = n by omega]
      exact Nat.gcd_dvd_right _ _
theorem sm_dv {f : Nat → Nat} {n : Nat} (h : mxn f n ≠ 0) : 0 < sm (fun i => f i / gcs f n) n := by
  have hn : 0 < n := by
    rcases Nat.eq_zero_or_pos n with c | c
    · subst c; exact absurd rfl h
    · exact c
  have hl := amx_lt f n hn
  have hm := mxn_amx f n hn
  refine sm_pos (j := amx f n) n hl ?_
  exact Nat.div_pos (Nat.le_of_dvd (by omega) (gcs_dvd n _ hl)) ((gcs_pos n).mpr h)
theorem sm_fu {f : Nat → Nat} {j : Nat} : ∀ n, j < n → sm (fu f j (f j + 1)) n = sm f n + 1
  | 0, h => absurd h (Nat.not_lt_zero j)
  | n + 1, h => by
    rw [sm, sm]
    rcases Nat.lt_or_ge j n with c | c
    · rw [sm_fu n c, fu_n (by omega)]
      omega
    · have e : n = j := by omega
      subst e
      rw [fu_s, sm_ext (h := f) n (fun i hi => fu_n (by omega))]
      omega
section STP
variable {g gm : Nat → Nat} {q qm : Nat → Nat → Nat} {bt : Nat → Nat → Int32} {kb : Bool}
theorem s_eat (h : BOTH g q bt gm qm kb) (x : Int32) (ch : Bool) : BOTH (N_eatg g q x ch) (N_eatq g q x ch) bt (N_eatg gm qm x ch) (meq gm qm x ch) kb := by
  unfold N_eatg N_eatq meq
  rw [show ix (gm 0) x = ix (g 0) x by rw [h.2.g0]]
  cases e : ix (g 0) x with
  | none => exact h
  | some j =>
    obtain ⟨hX, hR⟩ := h
    have hj := (ix_some e).1
    have hn := hX.n
    dsimp only
    rw [eats_r hR hj ch, gcs_r hR hj ch]
    by_cases c : eats g q j ch = true
    · rw [if_pos c, if_pos c, if_pos c, if_pos c]
      have c0 := c
      unfold eats at c0
      simp only [Bool.and_eq_true, decide_eq_true_iff] at c0
      obtain ⟨hm, h6⟩ := c0
      have e9 := hR.g9
      have hwz : ∀ i, 4 ≤ i → q 4 i = 0 := fun i hi => (hR.2.2.2.2.2 i hi).1
      have hc6 : ∀ i, (if ch then fu (q 6) j (q 6 j + 1) else q 6) i = if ch then fu (q 6) j (q 6 j + 1) i else q 6 i := fun i => by cases ch <;> rfl
      refine ⟨⟨hX.n, hX.n2, hX.per, hX.bu, fun i => ?_, fun i h1 h2 => ⟨(hX.z i h1 h2).1, ?_, ?_, ?_⟩, fun _ => ?_, hX.dry, hX.hd, hX.pl, hX.ri, (show g 9 + 1 ≤ 6 by omega), ?_, hX.pg, hX.kc, hX.k, hX.c⟩, ⟨hR.g0, hR.g1, hR.g2, hR.g3, hR.g4, hR.g5, (show gm 9 + 1 = g 9 + 1 by omega)⟩, ⟨fun k hk i hi => ?_, hR.2.1.2⟩, hR.2.2.1, RT.to hR.2.2.2.1 (fun _ _ => rfl) (fun _ _ => rfl) (fun _ _ => ⟨rfl, rfl, rfl, rfl⟩), RK.to hX hR rfl rfl rfl rfl rfl rfl rfl rfl rfl rfl (fun k _ _ => ?_) (fun k _ _ => ?_) (fun _ _ => rfl) (fun _ _ => rfl) (fun k _ _ => ?_) rfl, fun i hi => ⟨?_, (hR.2.2.2.2.2 i hi).2⟩⟩
      · show ff (fun i => wg q j ch (g 1) (q 4) i / gcs (wg q j ch (g 1) (q 4)) (g 0)) (q 4) 4 i ≤ 9 * 10 ^ (g 9 + 1)
        rcases Nat.lt_or_ge i 4 with d | d
        · rw [ff_in d]
          refine Nat.le_trans (Nat.div_le_self _ _) (Nat.le_trans (wg_le (hX.w i)) ?_)
          rw [Nat.pow_succ]
          omega
        · rw [ff_out d, hwz i d]
          exact Nat.zero_le _
      · show ff (fun i => wg q j ch (g 1) (q 4) i / gcs (wg q j ch (g 1) (q 4)) (g 0)) (q 4) 4 i = 0
        rw [ff_in h2, wgz (hX.z i h1 h2).2.1, Nat.zero_div]
      · show fu (q 5) j (q 5 j + 1) i = 0
        have h1 : g 0 ≤ i := h1
        rw [fu_n (by omega)]
        exact (hX.z i h1 h2).2.2.1
      · show (if ch then fu (q 6) j (q 6 j + 1) else q 6) i = 0
        have h1 : g 0 ≤ i := h1
        rw [hc6 i]
        split
        · rw [fu_n (by omega)]
          exact (hX.z i h1 h2).2.2.2
        · exact (hX.z i h1 h2).2.2.2
      · show 0 < sm (ff (fun i => wg q j ch (g 1) (q 4) i / gcs (wg q j ch (g 1) (q 4)) (g 0)) (q 4) 4) (g 0)
        rw [sm_ext (g 0) (fun i hi => ff_in (by omega))]
        exact sm_dv hm
      · show g 9 + 1 = sm (fu (q 5) j (q 5 j + 1)) 4
        rw [sm_fu 4 (by omega), hX.ats]
      · have hi : i < g 0 := hi
        by_cases c4 : k = 4
        · subst c4
          show ff (fun c => wg qm j ch (gm 1) (qm 4) c / gcs (wg q j ch (g 1) (q 4)) (g 0)) (qm 4) (gm 0) i = ff (fun i => wg q j ch (g 1) (q 4) i / gcs (wg q j ch (g 1) (q 4)) (g 0)) (q 4) 4 i
          rw [ff_in (by rw [hR.g0]; exact hi), ff_in (by omega), wg_r hR hj ch i hi]
        · by_cases c5 : k = 5
          · subst c5
            show fu (qm 5) j (qm 5 j + 1) i = fu (q 5) j (q 5 j + 1) i
            unfold fu
            rw [hR.2.1.1 5 (by decide) i hi, hR.2.1.1 5 (by decide) j hj]
          · by_cases c6 : k = 6
            · subst c6
              show (if ch then fu (qm 6) j (qm 6 j + 1) else qm 6) i = (if ch then fu (q 6) j (q 6 j + 1) else q 6) i
              cases ch with
              | true =>
                show fu (qm 6) j (qm 6 j + 1) i = fu (q 6) j (q 6 j + 1) i
                unfold fu
                rw [hR.2.1.1 6 (by decide) i hi, hR.2.1.1 6 (by decide) j hj]
              | false => exact hR.2.1.1 6 (by decide) i hi
            · rw [fq_ne c6, fq_ne c5, fq_ne c4, fq_ne c6, fq_ne c5, fq_ne c4]
              exact hR.2.1.1 k hk i hi
      · rw [fq_ne (by omega), fq_ne (by omega), fq_ne (by omega)]
      · rw [fq_ne (by omega), fq_ne (by omega), fq_ne (by omega)]
      · rw [fq_ne (by omega), fq_ne (by omega), fq_ne (by omega)]
      · show ff (fun i => wg q j ch (g 1) (q 4) i / gcs (wg q j ch (g 1) (q 4)) (g 0)) (q 4) 4 i = 0
        rw [ff_out hi]
        exact hwz i hi
    · rw [if_neg c, if_neg c, if_neg c, if_neg c]
      exact ⟨hX, hR⟩
theorem s_image (h : BOTH g q bt gm qm kb) (h0 : g 0 ≠ 0) : BOTH (img g) (imq q) (imb bt) (img gm) (imh qm) true := by
  obtain ⟨hX, hR⟩ := h
  have hn := hX.n
  have hn2 := hX.n2
  have hd := hX.hd
  have e2 := hR.g2
  have hc : 0 < g 4 := hX.c (by omega)
  have hz := hR.2.2.2.2.2
  have lo : ∀ {i : Nat}, i < 6 → reh (imh qm) 12 i = qm 12 i ∧ reh (imh qm) 13 i = qm 13 i ∧ reh (imh qm) 14 i = qm 14 i ∧ reh (imh qm) 15 i = qm 15 i := fun {i} hi => by
    refine ⟨?_, ?_, ?_, ?_⟩
    · show ff (ff (qm 12) (qm 16) 6) (qm 12) 6 i = _
      rw [ff_in hi, ff_in hi]
    · show ff (ff (qm 13) (qm 17) 6) (qm 13) 6 i = _
      rw [ff_in hi, ff_in hi]
    · show ff (ff (qm 14) (qm 18) 6) (qm 14) 6 i = _
      rw [ff_in hi, ff_in hi]
    · show ff (ff (qm 15) (qm 19) 6) (qm 15) 6 i = _
      rw [ff_in hi, ff_in hi]
  refine ⟨⟨hX.n, hX.n2, hX.per, hX.bu, hX.w, hX.z, hX.pos, hX.dry, hX.hd, hX.pl, hX.ri, hX.at, hX.ats, hX.pg, Nat.le_refl (g 4), fun _ _ => ⟨fun j => ?_, fun j => ?_, fun j h1 h2 => ?_, ?_, hX.dry, hX.hd, hX.at, ?_⟩, hX.c⟩, hR.1, ⟨fun k hk j hj => ?_, hR.2.1.2⟩, hR.2.2.1, RT.to hR.2.2.2.1 (fun _ _ => rfl) (fun _ _ => rfl) (fun _ _ => ⟨rfl, rfl, rfl, rfl⟩), ⟨(fun x => by cases x), fun _ => ⟨hR.g4, (show g 4 ≠ 0 by omega)⟩, fun _ _ => ⟨hR.g1, hR.g2, hR.g9, fun k h1 h2 j hj => ?_, fun k hk => ?_, fun j hj => ?_⟩⟩, fun j hj => ⟨(hz j hj).1, ?_, ?_⟩⟩
  · show ff (q 3) (q 8) 4 j ≤ 9
    rcases Nat.lt_or_ge j 4 with d | d
    · rw [ff_in d]; exact hX.bu j
    · rw [ff_out d, (hz j d).2.1]; exact Nat.zero_le _
  · show ff (q 4) (q 9) 4 j ≤ 9 * 10 ^ g 9
    rcases Nat.lt_or_ge j 4 with d | d
    · rw [ff_in d]; exact hX.w j
    · rw [ff_out d, (hz j d).2.2]; exact Nat.zero_le _
  · show ff (q 3) (q 8) 4 j = 0 ∧ ff (q 4) (q 9) 4 j = 0 ∧ ff (q 5) (q 10) 4 j = 0 ∧ ff (q 6) (q 11) 4 j = 0
    rw [ff_in h2, ff_in h2, ff_in h2, ff_in h2]
    exact hX.z j h1 h2
  · show 0 < sm (ff (q 4) (q 9) 4) (g 0)
    rw [sm_ext (g 0) (fun i hi => ff_in (by omega))]
    exact hX.pos (by omega)
  · show g 9 = sm (ff (q 5) (q 10) 4) 4
    rw [sm_ext 4 (fun i hi => ff_in hi)]
    exact hX.ats
  · have i1 : imh qm k = qm k := by
      unfold imh imq
      rw [fq_ne (by omega), fq_ne (by omega), fq_ne (by omega), fq_ne (by omega), fq_ne (by omega), fq_ne (by omega), fq_ne (by omega), fq_ne (by omega)]
    have i2 : imq q k = q k := by
      unfold imq
      rw [fq_ne (by omega), fq_ne (by omega), fq_ne (by omega), fq_ne (by omega)]
    rw [i1, i2]
    exact hR.2.1.1 k hk j hj
  · have hj : j < g 0 := hj
    rcases (show k = 8 ∨ k = 9 ∨ k = 10 ∨ k = 11 by omega) with rfl | rfl | rfl | rfl
    · show ff (qm 3) (qm 8) 4 j = ff (q 3) (q 8) 4 j
      rw [ff_in (by omega), ff_in (by omega)]
      exact hR.2.1.1 3 (by decide) j hj
    · show ff (qm 4) (qm 9) 4 j = ff (q 4) (q 9) 4 j
      rw [ff_in (by omega), ff_in (by omega)]
      exact hR.2.1.1 4 (by decide) j hj
    · show ff (qm 5) (qm 10) 4 j = ff (q 5) (q 10) 4 j
      rw [ff_in (by omega), ff_in (by omega)]
      exact hR.2.1.1 5 (by decide) j hj
    · show ff (qm 6) (qm 11) 4 j = ff (q 6) (q 11) 4 j
      rw [ff_in (by omega), ff_in (by omega)]
      exact hR.2.1.1 6 (by decide) j hj
  · have hk : k < gm 2 := hk
    obtain ⟨a, b, c, d⟩ := lo (i := k) (by omega)
    rw [a, b, c, d]
    exact hR.2.2.1 k hk
  · have hj : j < g 0 := hj
    show fr (bt 0) (bt 1) 4 j = bbF (fun t => cdB (reh (imh qm)) j t (gm 2)) 10
    rw [bbF_ext 10 (fun t _ => cdB_ext (qa := reh (imh qm)) (qb := qm) (t := t) rfl rfl (gm 2) (fun k hk => lo (by omega)))]
    unfold fr
    rw [if_pos (by omega)]
    exact hR.2.2.2.1 j hj
  · show ff (q 3) (q 8) 4 j = 0
    rw [ff_out hj]
    exact (hz j hj).2.1
  · show ff (q 4) (q 9) 4 j = 0
    rw [ff_out hj]
    exact (hz j hj).2.2
theorem s_restore (h : BOTH g q bt gm qm kb) (hk : ¬ (g 6 = 0 ∨ g 6 ≠ g 4)) : BOTH (reg g) (req q) (reb bt) (reg gm) (reh qm) kb := by
  obtain ⟨hX, hR⟩ := h
  have hn := hX.n
  have kt : kb = true := by
    cases kb with
    | true => rfl
    | false => exact absurd (Or.inl (hR.2.2.2.2.1.1 rfl)) hk
  have h64 : g 6 = g 4 := by omega
  have h8 := REL.k8 hX hR kt h64
  obtain ⟨x1, x2, x3, x4, x5, x6, x7, x8⟩ := hX.k h64 (by omega)
  obtain ⟨m7, m8, m10, mr, mh, mt⟩ := hR.2.2.2.2.1.2.2 kt h64
  have hz := hR.2.2.2.2.2
  refine ⟨⟨hX.n, hX.n2, hX.per, fun j => ?_, fun j => ?_, fun j h1 h2 => ?_, fun _ => ?_, x5, x6, hX.pl, hX.ri, x7, ?_, hX.pg, hX.kc, hX.k, hX.c⟩, ⟨hR.g0, m7, m8, hR.g3, hR.g4, hR.g5, m10⟩, ⟨fun k hk j hj => ?_, hR.2.1.2⟩, mh, fun j hj => ?_, ?_, fun j hj => ⟨?_, (hz j hj).2⟩⟩
  · show ff (q 8) (q 3) 4 j ≤ 9
    rcases Nat.lt_or_ge j 4 with d | d
    · rw [ff_in d]; exact x1 j
    · rw [ff_out d]; exact hX.bu j
  · show ff (q 9) (q 4) 4 j ≤ 9 * 10 ^ g 10
    rcases Nat.lt_or_ge j 4 with d | d
    · rw [ff_in d]; exact x2 j
    · rw [ff_out d, (hz j d).1]; exact Nat.zero_le _
  · show ff (q 8) (q 3) 4 j = 0 ∧ ff (q 9) (q 4) 4 j = 0 ∧ ff (q 10) (q 5) 4 j = 0 ∧ ff (q 11) (q 6) 4 j = 0
    rw [ff_in h2, ff_in h2, ff_in h2, ff_in h2]
    exact x3 j h1 h2
  · show 0 < sm (ff (q 9) (q 4) 4) (g 0)
    rw [sm_ext (g 0) (fun i hi => ff_in (by omega))]
    exact x4
  · show g 10 = sm (ff (q 10) (q 5) 4) 4
    rw [sm_ext 4 (fun i hi => ff_in hi)]
    exact x8
  · have hj : j < g 0 := hj
    by_cases c3 : k = 3
    · subst c3
      show ff (qm 8) (qm 3) 4 j = ff (q 8) (q 3) 4 j
      rw [ff_in (by omega), ff_in (by omega)]
      exact mr 8 (by decide) (by decide) j hj
    · by_cases c4 : k = 4
      · subst c4
        show ff (qm 9) (qm 4) 4 j = ff (q 9) (q 4) 4 j
        rw [ff_in (by omega), ff_in (by omega)]
        exact mr 9 (by decide) (by decide) j hj
      · by_cases c5 : k = 5
        · subst c5
          show ff (qm 10) (qm 5) 4 j = ff (q 10) (q 5) 4 j
          rw [ff_in (by omega), ff_in (by omega)]
          exact mr 10 (by decide) (by decide) j hj
        · by_cases c6 : k = 6
          · subst c6
            show ff (qm 11) (qm 6) 4 j = ff (q 11) (q 6) 4 j
            rw [ff_in (by omega), ff_in (by omega)]
            exact mr 11 (by decide) (by decide) j hj
          · have i1 : reh qm k = qm k := by
              unfold reh req
              rw [fq_ne (by omega), fq_ne (by omega), fq_ne (by omega), fq_ne (by omega), fq_ne (by omega), fq_ne (by omega), fq_ne (by omega), fq_ne (by omega)]
            have i2 : req q k = q k := by
              unfold req
              rw [fq_ne (by omega), fq_ne (by omega), fq_ne (by omega), fq_ne (by omega)]
            rw [i1, i2]
            exact hR.2.1.1 k hk j hj
  · have hj : j < g 0 := hj
    show fr (bt 1) (bt 0) 4 j = bbF (fun t => cdB (reh qm) j t (gm 8)) 10
    unfold fr
    rw [if_pos (by omega)]
    exact mt j hj
  · refine RK.to hX hR rfl rfl rfl rfl rfl rfl rfl rfl rfl rfl (fun k a b => ?_) (fun k a b => ?_) (fun _ _ => rfl) (fun _ _ => rfl) (fun k a b => ?_) rfl
    · unfold req
      rw [fq_ne (by omega), fq_ne (by omega), fq_ne (by omega), fq_ne (by omega)]
    · unfold reh req
      rw [fq_ne (by omega), fq_ne (by omega), fq_ne (by omega), fq_ne (by omega), fq_ne (by omega), fq_ne (by omega), fq_ne (by omega), fq_ne (by omega)]
    · unfold reh req
      rw [fq_ne (by omega), fq_ne (by omega), fq_ne (by omega), fq_ne (by omega), fq_ne (by omega), fq_ne (by omega), fq_ne (by omega), fq_ne (by omega)]
  · show ff (q 9) (q 4) 4 j = 0
    rw [ff_out hj]
    exact (hz j hj).1
theorem s_court (h : BOTH g q bt gm qm kb) (hw : whl (q 7) (g 3) = true) : BOTH (crg g q) (crq g q) (crb bt) (crg gm qm) (mcq gm qm (crm gm)) kb := by
  obtain ⟨hX, hR⟩ := h
  obtain ⟨mm, hm2, hm4, hnm, hmin, hper, hd1, hd2, -⟩ := whl_spec hX.pl hw
  have hc : crm g = mm := hmin
  have hcm : crm gm = mm := by unfold crm; rw [hR.g3]; exact hmin
  have hcd : ∀ i, cd (qm 7) (gm 3) i = cd (q 7) (g 3) i := fun i => by rw [hR.g3]; exact cd_ext hR.pg i
  have hkc := hX.kc
  have e3 := hR.g3
  have e4 := hR.g4
  have hz := hR.2.2.2.2.2
  have z4 : ∀ (f : Nat → Nat) (i : Nat), i < 4 → ff (fun _ => 0) f 4 i = 0 := fun f i hi => ff_in hi
  refine ⟨⟨(show crm g ≤ 4 by omega), (show crm g = 0 ∨ 2 ≤ crm g by omega), fun j hj => ?_, fun j => ?_, fun j => ?_, fun j h1 h2 => ?_, fun _ => ?_, ?_, (show 0 ≤ 6 by decide), (show 0 ≤ 18 by decide), hX.ri, (show 0 ≤ 6 by decide), ?_, fun i hi => absurd hi (Nat.not_lt_zero i), (show g 6 ≤ g 4 + 1 by omega), fun a _ => ?_, fun _ => (show 0 < g 4 + 1 by omega)⟩, ⟨hcm.trans hc.symm, ?_, rfl, rfl, (show gm 4 + 1 = g 4 + 1 by omega), hR.g5, rfl⟩, ⟨fun k hk j hj => ?_, fun i hi => absurd hi (Nat.not_lt_zero i)⟩, fun k hk => absurd hk (Nat.not_lt_zero k), fun j hj => ?_, ⟨hR.2.2.2.2.1.1, hR.2.2.2.2.1.2.1, fun _ a => ?_⟩, fun j hj => ⟨?_, (hz j hj).2⟩⟩
  · have hj : j < crm g := hj
    obtain ⟨p1, p2, p3, p4, p5⟩ := hper j (by omega)
    show kN (cd (q 7) (g 3) (j * 4)) < 5 ∧ cd (q 7) (g 3) (j * 4 + 1) - 48 ≤ 9 ∧ 1 ≤ cd (q 7) (g 3) (j * 4 + 2) - 48 ∧ cd (q 7) (g 3) (j * 4 + 2) - 48 ≤ 9
    exact ⟨kN_lt _, by omega, by omega, by omega⟩
  · show ff (fun _ => 0) (q 3) 4 j ≤ 9
    rcases Nat.lt_or_ge j 4 with d | d
    · rw [z4 _ j d]; exact Nat.zero_le _
    · rw [ff_out d]; exact hX.bu j
  · show ff (odC (q 7) (g 3)) (ff (fun _ => 0) (q 4) 4) (crm g) j ≤ 9 * 10 ^ 0
    rcases Nat.lt_or_ge j (crm g) with d | d
    · rw [ff_in d]
      obtain ⟨p1, p2, p3, p4, p5⟩ := hper j (by omega)
      show cd (q 7) (g 3) (j * 4 + 2) - 48 ≤ 9 * 1
      omega
    · rw [ff_out d]
      rcases Nat.lt_or_ge j 4 with d2 | d2
      · rw [z4 _ j d2]; exact Nat.zero_le _
      · rw [ff_out d2, (hz j d2).1]; exact Nat.zero_le _
  · have h1 : crm g ≤ j := h1
    show ff (fun _ => 0) (q 3) 4 j = 0 ∧ ff (odC (q 7) (g 3)) (ff (fun _ => 0) (q 4) 4) (crm g) j = 0 ∧ ff (fun _ => 0) (q 5) 4 j = 0 ∧ ff (fun _ => 0) (q 6) 4 j = 0
    rw [ff_out h1, z4 _ j h2, z4 _ j h2, z4 _ j h2, z4 _ j h2]
    exact ⟨rfl, rfl, rfl, rfl⟩
  · show 0 < sm (ff (odC (q 7) (g 3)) (ff (fun _ => 0) (q 4) 4) (crm g)) (crm g)
    refine sm_pos (j := 0) _ (by omega) ?_
    rw [ff_in (by omega)]
    obtain ⟨p1, p2, p3, p4, p5⟩ := hper 0 (by omega)
    show 0 < cd (q 7) (g 3) (0 * 4 + 2) - 48
    omega
  · show cd (q 7) (g 3) (g 3 - 1) - 48 ≤ 9
    omega
  · show 0 = sm (ff (fun _ => 0) (q 5) 4) 4
    rw [sm_ext 4 (fun i hi => ff_in hi)]
    rfl
  · have a : g 6 = g 4 + 1 := a
    omega
  · show cd (qm 7) (gm 3) (gm 3 - 1) - 48 = cd (q 7) (g 3) (g 3 - 1) - 48
    rw [hcd, e3]
  · have hj : j < crm g := hj
    have hjm : j < crm gm := by omega
    rcases (show k = 0 ∨ k = 1 ∨ k = 2 ∨ k = 3 ∨ k = 4 ∨ k = 5 ∨ k = 6 by omega) with rfl | rfl | rfl | rfl | rfl | rfl | rfl
    · show ff (kdC (qm 7) (gm 3)) (qm 0) (crm gm) j = kdC (q 7) (g 3) j
      rw [ff_in hjm]
      unfold kdC
      rw [hcd]
    · show ff (feC (qm 7) (gm 3)) (qm 1) (crm gm) j = feC (q 7) (g 3) j
      rw [ff_in hjm]
      unfold feC
      rw [hcd]
    · show ff (odC (qm 7) (gm 3)) (qm 2) (crm gm) j = odC (q 7) (g 3) j
      rw [ff_in hjm]
      unfold odC
      rw [hcd]
    · show ff (fun _ => 0) (qm 3) (crm gm) j = ff (fun _ => 0) (q 3) 4 j
      rw [ff_in hjm, ff_in (by omega)]
    · show ff (odC (qm 7) (gm 3)) (qm 4) (crm gm) j = ff (odC (q 7) (g 3)) (ff (fun _ => 0) (q 4) 4) (crm g) j
      rw [ff_in hjm, ff_in hj]
      unfold odC
      rw [hcd]
    · show ff (fun _ => 0) (qm 5) (crm gm) j = ff (fun _ => 0) (q 5) 4 j
      rw [ff_in hjm, ff_in (by omega)]
    · show ff (fun _ => 0) (qm 6) (crm gm) j = ff (fun _ => 0) (q 6) 4 j
      rw [ff_in hjm, ff_in (by omega)]
  · have hj : j < crm g := hj
    show fr (fun _ => nI 1023) (bt 0) 4 j = bbF (fun t => cdB (mcq gm qm (crm gm)) j t 0) 10
    rw [bbF_all (p := fun t => cdB (mcq gm qm (crm gm)) j t 0) (fun _ _ => rfl)]
    unfold fr
    rw [if_pos (by omega)]
  · have a : g 6 = g 4 + 1 := a
    omega
  · show ff (odC (q 7) (g 3)) (ff (fun _ => 0) (q 4) 4) (crm g) j = 0
    rw [ff_out (by omega), ff_out hj]
    exact (hz j hj).1
end STP
