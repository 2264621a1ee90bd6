set_option maxHeartbeats 16000000 in
set_option maxRecDepth 100000 in
/-- THE LAW'S LOOP: at its head, the two states say the same -/
theorem law_loop {p : Program} {l : Launch} {e : Env} {s : State} {m : MethodId} {below : List Frame} {meth : Method} {c : Code} {D : va_G} {cy : Nat → ClassId} {ev : kz_V} {b L : Nat} {xs : Nat → Int32} (hL : L ≤ 320) (C0 : lw_At p s m meth c b L xs) (hev : ev.1 = s.heap.size) (hK : va_K D vwCl (kz_ty cy) s) (hE0 : kz_E ev s s.heap) (ax am : Nat → Nat) {H : Heap} {locs : List Loc} {ls : Array Slot} (h0 : (fun i (_ : Unit) H locs ls => ∃ (g : Nat → Nat) (q : Nat → Nat → Nat) (bt : Nat → Nat → Int32) (rv : Nat → Nat → Nat) (pf : Nat → Option Nat) (pa : Nat → Nat) (pz : va_W) (gm : Nat → Nat) (qm : Nat → Nat → Nat) (kb : Bool) (sc : MSc), BOTH g q bt gm qm kb ∧ XP g q pf pa pz ∧ g 4 ≤ i ∧ gm 6 ≤ i ∧ i ≤ 64 ∧ va_P D vwCl (LX cy ax g q bt rv pf ++ (LM cy am gm qm kb sc ++ pz)) H ∧ va_D (va_A [] s.heap.size) (LX cy ax g q bt rv pf ++ (LM cy am gm qm kb sc ++ pz)) ∧ va_S (va_A [] s.heap.size) s.heap H locs ∧ lv_has ls 4 [(0, .ref b), (1, .ref (ax 0)), (2, .ref (am 0)), (3, .int (nI (5 * i)))]) 0 () H locs ls) : W p l e room_1 s m #[Value.ref b] below meth c H locs (43 + 4 * 0) (271 + 8 * 0) (lw_Z below #[Value.ref b] s) (F0 m 18 ls []) := by
  obtain ⟨hx, hb, hr, hml, hown, hts0, hX, hbl, hlocks, hgv⟩ := C0
  have hb : c.code = cL_law := hb
  have hown : s.vm.findClass RL = some m.cls := hown
  have hts : ∀ w ∈ WB, w.before #[Value.ref b] s = true := fun w h => hts0 w (WB_tbl w h)
  have hA : ∀ q9 : Nat, s.heap.size ≤ q9 → va_A [] s.heap.size q9 := fun _ h => Or.inr h
  have hAE : ∀ q9, va_A [] s.heap.size q9 → ev.1 ≤ q9 := fun q9 h => h.elim (fun ⟨_, _, h9⟩ => by simp at h9) (fun h => by rw [hev]; exact h)
  have hbA : ¬ va_A [] s.heap.size b := fun h => h.elim (fun ⟨_, _, h9⟩ => by simp at h9) (fun h => Nat.not_le.mpr hbl h)
  have hsz : ev.1 ≤ s.heap.size := by rw [hev]; exact Nat.le_refl _
  refine kn_loopC (α := Unit) (fun i => 43 + 4 * i) (fun i => 271 + 8 * i) 64 (fun i (_ : Unit) H locs ls => ∃ (g : Nat → Nat) (q : Nat → Nat → Nat) (bt : Nat → Nat → Int32) (rv : Nat → Nat → Nat) (pf : Nat → Option Nat) (pa : Nat → Nat) (pz : va_W) (gm : Nat → Nat) (qm : Nat → Nat → Nat) (kb : Bool) (sc : MSc), BOTH g q bt gm qm kb ∧ XP g q pf pa pz ∧ g 4 ≤ i ∧ gm 6 ≤ i ∧ i ≤ 64 ∧ va_P D vwCl (LX cy ax g q bt rv pf ++ (LM cy am gm qm kb sc ++ pz)) H ∧ va_D (va_A [] s.heap.size) (LX cy ax g q bt rv pf ++ (LM cy am gm qm kb sc ++ pz)) ∧ va_S (va_A [] s.heap.size) s.heap H locs ∧ lv_has ls 4 [(0, .ref b), (1, .ref (ax 0)), (2, .ref (am 0)), (3, .int (nI (5 * i)))]) 0 () h0 (fun i z H locs ls hI9 ih18 => ?_)
  obtain ⟨g, q, bt, rv, pf, pa, pz, gm, qm, kb, sc, hB, hZ, hg4, hg6, hi64, hP, hD, hS, hl⟩ := hI9
  have hE := hE0.kept hAE hS
  have hY := REL.yi hB.1 hB.2
  have e44 := hB.2.g4
  refine lv_iload_n hx hb dL_law_18 rfl (lv_at hl 3 rfl) ?_
  refine lv_aload_n hx hb dL_law_19 rfl (lv_at hl 0 rfl) ?_
  refine va_slen hx hb hX hbl hbA hS dL_law_20 ?_
  refine kn_as (st' := [.int (nI L), .int (nI (5 * i))]) rfl ?_
  refine lv_iconst (v := nI 5) hx hb dL_law_21 (by decide) ?_
  refine lv_isub hx hb dL_law_22 ?_
  refine kt_icmp_gt (tgt := 713) hx hb dL_law_23 (by decide) (nI_toInt (by omega)) (pk_sub_toInt (by omega) (by decide)) (fun c23 => ?_) (fun c23 => ?_)
  · skip
    refine lv_iconst (v := 1) hx hb dL_law_713 (by decide) ?_
    refine va_forget (fun q9 hq => (hS.2.2 q9 hq).elim (fun ⟨_, _, h9⟩ => by simp at h9) id) ?_
    refine W.widen (k := 622252) (n := 7235492) (by omega) (by omega) ?_
    exact lw_ret hx hb hr hlocks dL_law_714
  · skip
    refine lv_aload_n hx hb dL_law_26 rfl (lv_at hl 0 rfl) ?_
    refine lv_iload_n hx hb dL_law_27 rfl (lv_at hl 3 rfl) ?_
    refine kn_sld hx hb hX hbl hbA hS (by omega) hL dL_law_28 ?_
    refine lv_bipush (v := nI 31) hx hb dL_law_29 (by decide) ?_
    refine lv_iand hx hb dL_law_31 ?_
    generalize xs (5 * i) &&& nI 31 = sv
    rcases hs32 : ix 21 sv with _ | k32
    · skip
      have hsn := ix_none hs32
      refine lv_tableOut (tgt := 707) hx hb dL_law_32 (by omega) (by decide) ?_
      refine kn_iinc (k := 3) (x := 5 * i) (d := 5) (lv' := [(3, .int (nI (5 * i + 5))), (0, .ref b), (1, .ref (ax 0)), (2, .ref (am 0))]) hx hb dL_law_707 hl rfl (by decide) rfl (fun ls hl => ?_)
      refine lv_goto (tgt := 18) hx hb dL_law_710 (by decide) ?_
      refine W.widen (k := 43 + 4 * (i + 1)) (n := 271 + 8 * (i + 1)) (by omega) (by omega) ?_
      exact ih18 () _ _ _ (by omega) ⟨_, _, _, _, _, _, _, _, _, _, _, hB, hZ, (by omega), (by omega), by omega, hP, hD, hS, lv_sub hl [1, 2, 3, 0] rfl⟩
    · skip
      obtain ⟨hk32, rfl⟩ := ix_some hs32
      rcases (show k32 = 0 ∨ k32 = 1 ∨ k32 = 2 ∨ k32 = 3 ∨ k32 = 4 ∨ k32 = 5 ∨ k32 = 6 ∨ k32 = 7 ∨ k32 = 8 ∨ k32 = 9 ∨ k32 = 10 ∨ k32 = 11 ∨ k32 = 12 ∨ k32 = 13 ∨ k32 = 14 ∨ k32 = 15 ∨ k32 = 16 ∨ k32 = 17 ∨ k32 = 18 ∨ k32 = 19 ∨ k32 = 20 by omega) with rfl | rfl | rfl | rfl | rfl | rfl | rfl | rfl | rfl | rfl | rfl | rfl | rfl | rfl | rfl | rfl | rfl | rfl | rfl | rfl | rfl
      · skip
        refine lv_tableIn (tgt := 132) (off := 100) hx hb dL_law_32 (by decide) (by decide) rfl (by decide) ?_
        refine lv_aload_n hx hb dL_law_132 rfl (lv_at hl 1 rfl) ?_
        refine lv_aload_n hx hb dL_law_133 rfl (lv_at hl 0 rfl) ?_
        refine lv_iload_n hx hb dL_law_134 rfl (lv_at hl 3 rfl) ?_
        refine lv_iconst (v := nI 1) hx hb dL_law_135 (by decide) ?_
        refine kn_iadd hx hb dL_law_136 ?_
        refine kn_sld hx hb hX hbl hbA hS (by omega) hL dL_law_137 ?_
        have hF := lj_free hD hS hA
        refine wr_Vi (As := [.int (xs ((5 * i) + 1))]) (rest := []) ⟨hx, hb, hml, hown, hts⟩ (c_X7_letter l D cy ev H.size ax g q bt rv pf hB.1 (xs ((5 * i) + 1))) (kz_cwV 1 hts wm_70 wm_67 wm_68 wm_69 wm_2 rfl rfl (by decide +kernel) ⟨Nat.le_of_ble_eq_true rfl, Nat.le_of_ble_eq_true rfl⟩) hK hE hP.left kz_P0 (kz_D0 hD.left hAE) (Nat.le_trans hsz hS.1) hS hF (kz_recv 0 hK hP.left rfl rfl) rfl hl.1 rfl (Nat.le_of_ble_eq_true rfl) dL_law_138 ⟨(show 43 + 4 * i + 0 ≤ 622252 by omega), (show 271 + 8 * i + 0 ≤ 7235492 by omega)⟩ (fun r u H138 locs hp hP1 hD1 hz1 hk1 hS => ?_)
        obtain ⟨g1, q1, bt1, rv1⟩ := u
        obtain ⟨hr1, e1, e2, e3⟩ := hp
        have e1 : g1 = N_letterg g (xs ((5 * i) + 1)) := e1
        have e2 : q1 = N_letterq g q (xs ((5 * i) + 1)) := e2
        have e3 : bt1 = bt := e3
        subst hr1
        have hP1 : va_P D vwCl (LX cy ax g1 q1 bt1 rv1 pf) H138 := hP1
        have hD1 : va_D _ (LX cy ax g1 q1 bt1 rv1 pf) := hD1
        rw [e1, e2, e3] at hP1 hD1
        obtain ⟨hP, hD⟩ := lj_join (X1 := LX cy ax (N_letterg g (xs ((5 * i) + 1))) (N_letterq g q (xs ((5 * i) + 1))) (bt) rv1 pf) hP hD hk1 hF hP1 hD1
        have hE := hE0.kept hAE hS
        refine lv_aload_n hx hb dL_law_141 rfl (lv_at hl 2 rfl) ?_
        refine lv_aload_n hx hb dL_law_142 rfl (lv_at hl 0 rfl) ?_
        refine lv_iload_n hx hb dL_law_143 rfl (lv_at hl 3 rfl) ?_
        refine lv_iconst (v := nI 1) hx hb dL_law_144 (by decide) ?_
        refine kn_iadd hx hb dL_law_145 ?_
        refine kn_sld hx hb hX hbl hbA hS (by omega) hL dL_law_146 ?_
        have hPs := lj_swP hP
        have hDs := lj_sw hD
        have hF := lj_free hDs hS hA
        refine wr_Vi (As := [.int (xs ((5 * i) + 1))]) (rest := [.int (F_letter g (xs ((5 * i) + 1)))]) ⟨hx, hb, hml, hown, hts⟩ (c_X8_letter l D cy ev H138.size am gm qm kb sc hY (xs ((5 * i) + 1))) (kz_cwV 1 hts wm_80 wm_77 wm_78 wm_79 wm_5 rfl rfl (by decide +kernel) ⟨Nat.le_of_ble_eq_true rfl, Nat.le_of_ble_eq_true rfl⟩) hK hE hPs.left kz_P0 (kz_D0 hDs.left hAE) (Nat.le_trans hsz hS.1) hS hF (kz_recv 0 hK hPs.left rfl rfl) rfl hl.1 rfl (Nat.le_of_ble_eq_true rfl) dL_law_147 ⟨(show 43 + 4 * i + 0 ≤ 622252 by omega), (show 271 + 8 * i + 0 ≤ 7235492 by omega)⟩ (fun r u H147 locs hp hP1 hD1 hz1 hk1 hS => ?_)
        obtain ⟨g2, q2, kb2, sc2⟩ := u
        obtain ⟨hr1, e1, e2, e3⟩ := hp
        have e1 : g2 = N_letterg gm (xs ((5 * i) + 1)) := e1
        have e2 : q2 = N_letterq gm qm (xs ((5 * i) + 1)) := e2
        have e3 : kb2 = kb := e3
        subst hr1
        have hP1 : va_P D vwCl (LM cy am g2 q2 kb2 sc2) H147 := hP1
        have hD1 : va_D _ (LM cy am g2 q2 kb2 sc2) := hD1
        rw [e1, e2, e3] at hP1 hD1
        obtain ⟨hP, hD⟩ := lj_join (X1 := LM cy am (N_letterg gm (xs ((5 * i) + 1))) (N_letterq gm qm (xs ((5 * i) + 1))) (kb) sc2) hPs hDs hk1 hF hP1 hD1
        have hP := lj_swP hP
        have hD := lj_sw hD
        have hE := hE0.kept hAE hS
        refine kt_icmp_eq (tgt := 707) hx hb dL_law_150 (by decide) rfl rfl (fun c150 => ?_) (fun c150 => absurd (congrArg Int32.toInt (a_letter hB.2 (xs ((5 * i) + 1))).symm) c150)
        refine kn_iinc (k := 3) (x := 5 * i) (d := 5) (lv' := [(3, .int (nI (5 * i + 5))), (0, .ref b), (1, .ref (ax 0)), (2, .ref (am 0))]) hx hb dL_law_707 hl rfl (by decide) rfl (fun ls hl => ?_)
        refine lv_goto (tgt := 18) hx hb dL_law_710 (by decide) ?_
        refine W.widen (k := 43 + 4 * (i + 1)) (n := 271 + 8 * (i + 1)) (by omega) (by omega) ?_
        have hB1 := s_letter hB (xs ((5 * i) + 1))
        have hkp := kp_letter (g := g) (q := q) (xs ((5 * i) + 1))
        exact ih18 () _ _ _ (by omega) ⟨_, _, _, _, _, _, _, _, _, _, _, hB1, (hZ.to hkp), (by rw [hkp.2.1]; omega), (by rw [k6_letter (xs ((5 * i) + 1))]; omega), by omega, hP, hD, hS, lv_sub hl [1, 2, 3, 0] rfl⟩
      · skip
        refine lv_tableIn (tgt := 155) (off := 123) hx hb dL_law_32 (by decide) (by decide) rfl (by decide) ?_
        refine lv_aload_n hx hb dL_law_155 rfl (lv_at hl 1 rfl) ?_
        have hF := lj_free hD hS hA
        refine wr_Vi (As := []) (rest := []) ⟨hx, hb, hml, hown, hts⟩ (c_X7_blank l D cy ev H.size ax g q bt rv pf) (kz_cwV 0 hts wm_88 wm_85 wm_86 wm_87 wm_2 rfl rfl (by decide +kernel) ⟨Nat.le_of_ble_eq_true rfl, Nat.le_of_ble_eq_true rfl⟩) hK hE hP.left kz_P0 (kz_D0 hD.left hAE) (Nat.le_trans hsz hS.1) hS hF (kz_recv 0 hK hP.left rfl rfl) rfl hl.1 rfl (Nat.le_of_ble_eq_true rfl) dL_law_156 ⟨(show 43 + 4 * i + 0 ≤ 622252 by omega), (show 271 + 8 * i + 0 ≤ 7235492 by omega)⟩ (fun r u H156 locs hp hP1 hD1 hz1 hk1 hS => ?_)
        obtain ⟨g1, q1, bt1, rv1⟩ := u
        obtain ⟨hr1, e1, e2, e3⟩ := hp
        have e1 : g1 = fg g 3 0 := e1
        have e2 : q1 = q := e2
        have e3 : bt1 = bt := e3
        subst hr1
        have hP1 : va_P D vwCl (LX cy ax g1 q1 bt1 rv1 pf) H156 := hP1
        have hD1 : va_D _ (LX cy ax g1 q1 bt1 rv1 pf) := hD1
        rw [e1, e2, e3] at hP1 hD1
        obtain ⟨hP, hD⟩ := lj_join (X1 := LX cy ax (fg g 3 0) (q) (bt) rv1 pf) hP hD hk1 hF hP1 hD1
        have hE := hE0.kept hAE hS
        refine lv_aload_n hx hb dL_law_159 rfl (lv_at hl 2 rfl) ?_
        have hPs := lj_swP hP
        have hDs := lj_sw hD
        have hF := lj_free hDs hS hA
        refine wr_Vi (As := []) (rest := [.int (nI (g 3))]) ⟨hx, hb, hml, hown, hts⟩ (c_X8_blank l D cy ev H156.size am gm qm kb sc) (kz_cwV 0 hts wm_92 wm_89 wm_90 wm_91 wm_5 rfl rfl (by decide +kernel) ⟨Nat.le_of_ble_eq_true rfl, Nat.le_of_ble_eq_true rfl⟩) hK hE hPs.left kz_P0 (kz_D0 hDs.left hAE) (Nat.le_trans hsz hS.1) hS hF (kz_recv 0 hK hPs.left rfl rfl) rfl hl.1 rfl (Nat.le_of_ble_eq_true rfl) dL_law_160 ⟨(show 43 + 4 * i + 0 ≤ 622252 by omega), (show 271 + 8 * i + 0 ≤ 7235492 by omega)⟩ (fun r u H160 locs hp hP1 hD1 hz1 hk1 hS => ?_)
        obtain ⟨g2, q2, kb2, sc2⟩ := u
        obtain ⟨hr1, e1, e2, e3⟩ := hp
        have e1 : g2 = fg gm 3 0 := e1
        have e2 : q2 = qm := e2
        have e3 : kb2 = kb := e3
        subst hr1
        have hP1 : va_P D vwCl (LM cy am g2 q2 kb2 sc2) H160 := hP1
        have hD1 : va_D _ (LM cy am g2 q2 kb2 sc2) := hD1
        rw [e1, e2, e3] at hP1 hD1
        obtain ⟨hP, hD⟩ := lj_join (X1 := LM cy am (fg gm 3 0) (qm) (kb) sc2) hPs hDs hk1 hF hP1 hD1
        have hP := lj_swP hP
        have hD := lj_sw hD
        have hE := hE0.kept hAE hS
        refine kt_icmp_eq (tgt := 707) hx hb dL_law_163 (by decide) rfl rfl (fun c163 => ?_) (fun c163 => absurd (congrArg Int32.toInt (congrArg nI hB.2.g3).symm) c163)
        refine kn_iinc (k := 3) (x := 5 * i) (d := 5) (lv' := [(3, .int (nI (5 * i + 5))), (0, .ref b), (1, .ref (ax 0)), (2, .ref (am 0))]) hx hb dL_law_707 hl rfl (by decide) rfl (fun ls hl => ?_)
        refine lv_goto (tgt := 18) hx hb dL_law_710 (by decide) ?_
        refine W.widen (k := 43 + 4 * (i + 1)) (n := 271 + 8 * (i + 1)) (by omega) (by omega) ?_
        have hB1 := s_blank hB
        
        exact ih18 () _ _ _ (by omega) ⟨_, _, _, _, _, _, _, _, _, _, _, hB1, (hZ.to ⟨rfl, rfl, rfl, rfl, rfl⟩), (show g 4 ≤ i + 1 by omega), (show gm 6 ≤ i + 1 by omega), by omega, hP, hD, hS, lv_sub hl [1, 2, 3, 0] rfl⟩
      · skip
        refine lv_tableIn (tgt := 168) (off := 136) hx hb dL_law_32 (by decide) (by decide) rfl (by decide) ?_
        refine lv_aload_n hx hb dL_law_168 rfl (lv_at hl 1 rfl) ?_
        refine ro_Vi (As := []) (rest := []) (v := nI (flt (q 7) (g 3))) ⟨hx, hb, hml, hown, hts⟩ (c_X7_fault l D cy ev ax g q bt rv pf hB.1) (kz_cwV 0 hts wm_96 wm_93 wm_94 wm_95 wm_2 rfl rfl (by decide +kernel) ⟨Nat.le_of_ble_eq_true rfl, Nat.le_of_ble_eq_true rfl⟩) hK hE hP.left (kz_recv 0 hK hP.left rfl rfl) rfl hl.1 rfl (Nat.le_of_ble_eq_true rfl) dL_law_169 ⟨(show 43 + 4 * i + 0 ≤ 622252 by omega), (show 271 + 8 * i + 0 ≤ 7235492 by omega)⟩ ?_
        refine lv_aload_n hx hb dL_law_172 rfl (lv_at hl 2 rfl) ?_
        have hPs := lj_swP hP
        have hDs := lj_sw hD
        have hF := lj_free hDs hS hA
        refine wr_Vi (As := []) (rest := [.int (nI (flt (q 7) (g 3)))]) ⟨hx, hb, hml, hown, hts⟩ (c_X8_fault l D cy ev H.size am gm qm kb sc hY) (kz_cwV 0 hts wm_217 wm_214 wm_215 wm_216 wm_5 rfl rfl (by decide +kernel) ⟨Nat.le_of_ble_eq_true rfl, Nat.le_of_ble_eq_true rfl⟩) hK hE hPs.left kz_P0 (kz_D0 hDs.left hAE) (Nat.le_trans hsz hS.1) hS hF (kz_recv 0 hK hPs.left rfl rfl) rfl hl.1 rfl (Nat.le_of_ble_eq_true rfl) dL_law_173 ⟨(show 43 + 4 * i + 0 ≤ 622252 by omega), (show 271 + 8 * i + 0 ≤ 7235492 by omega)⟩ (fun r u H173 locs hp hP1 hD1 hz1 hk1 hS => ?_)
        obtain ⟨g2, q2, kb2, sc2⟩ := u
        obtain ⟨hr1, e1, e2, e3⟩ := hp
        have e1 : g2 = gm := e1
        have e2 : q2 = qm := e2
        have e3 : kb2 = kb := e3
        subst hr1
        have hP1 : va_P D vwCl (LM cy am g2 q2 kb2 sc2) H173 := hP1
        have hD1 : va_D _ (LM cy am g2 q2 kb2 sc2) := hD1
        rw [e1, e2, e3] at hP1 hD1
        obtain ⟨hP, hD⟩ := lj_join (X1 := LM cy am (gm) (qm) (kb) sc2) hPs hDs hk1 hF hP1 hD1
        have hP := lj_swP hP
        have hD := lj_sw hD
        have hE := hE0.kept hAE hS
        refine kt_icmp_eq (tgt := 707) hx hb dL_law_176 (by decide) rfl rfl (fun c176 => ?_) (fun c176 => absurd (congrArg Int32.toInt (congrArg nI (a_fault hB.2)).symm) c176)
        refine kn_iinc (k := 3) (x := 5 * i) (d := 5) (lv' := [(3, .int (nI (5 * i + 5))), (0, .ref b), (1, .ref (ax 0)), (2, .ref (am 0))]) hx hb dL_law_707 hl rfl (by decide) rfl (fun ls hl => ?_)
        refine lv_goto (tgt := 18) hx hb dL_law_710 (by decide) ?_
        refine W.widen (k := 43 + 4 * (i + 1)) (n := 271 + 8 * (i + 1)) (by omega) (by omega) ?_
        exact ih18 () _ _ _ (by omega) ⟨_, _, _, _, _, _, _, _, _, _, _, hB, hZ, (by omega), (by omega), by omega, hP, hD, hS, lv_sub hl [1, 2, 3, 0] rfl⟩
      · skip
        refine lv_tableIn (tgt := 181) (off := 149) hx hb dL_law_32 (by decide) (by decide) rfl (by decide) ?_
        refine lv_aload_n hx hb dL_law_181 rfl (lv_at hl 1 rfl) ?_
        by_cases c0 : whl (q 7) (g 3) = true
        · skip
          have hF := lj_free hD hS hA
          refine wr_Vi (As := []) (rest := []) ⟨hx, hb, hml, hown, hts⟩ (c_X7_court l D cy ev H.size ax g q bt rv pf hB.1) (kz_cwV 0 hts wm_238 wm_235 wm_236 wm_237 wm_2 rfl rfl (by decide +kernel) ⟨Nat.le_of_ble_eq_true rfl, Nat.le_of_ble_eq_true rfl⟩) hK hE hP.left kz_P0 (kz_D0 hD.left hAE) (Nat.le_trans hsz hS.1) hS hF (kz_recv 0 hK hP.left rfl rfl) rfl hl.1 rfl (Nat.le_of_ble_eq_true rfl) dL_law_182 ⟨(show 43 + 4 * i + 4 ≤ 622252 by omega), (show 271 + 8 * i + 8 ≤ 7235492 by omega)⟩ (fun r u H182 locs hp hP1 hD1 hz1 hk1 hS => ?_)
          obtain ⟨⟨g1, q1, bt1, rv1⟩, pf1, pa1, pz1⟩ := u
          obtain ⟨hr1, hp⟩ := hp
          rw [if_pos c0] at hp
          obtain ⟨e1, e2, e3, hZ1⟩ := hp
          have e1 : g1 = crg g q := e1
          have e2 : q1 = crq g q := e2
          have e3 : bt1 = crb bt := e3
          have hZ1 : XP (crg g q) (crq g q) pf1 pa1 pz1 := hZ1
          subst hr1
          have hP1 : va_P D vwCl (LX cy ax g1 q1 bt1 rv1 pf1 ++ pz1) H182 := hP1
          have hD1 : va_D _ (LX cy ax g1 q1 bt1 rv1 pf1 ++ pz1) := hD1
          rw [e1, e2, e3] at hP1 hD1
          obtain ⟨hP, hD⟩ := lj_join (X1 := LX cy ax (crg g q) (crq g q) (crb bt) rv1 pf1 ++ pz1) hP hD hk1 hF hP1 hD1
          have hP := lj_newP hP
          have hD := lj_new hD
          have hE := hE0.kept hAE hS
          refine lv_aload_n hx hb dL_law_185 rfl (lv_at hl 2 rfl) ?_
          have hPs := lj_swP hP
          have hDs := lj_sw hD
          have hF := lj_free hDs hS hA
          refine wr_Vi (As := []) (rest := [.int (F_court g q)]) ⟨hx, hb, hml, hown, hts⟩ (c_X8_court l D cy ev H182.size am gm qm kb sc hY) (kz_cwV 0 hts wm_308 wm_305 wm_306 wm_307 wm_5 rfl rfl (by decide +kernel) ⟨Nat.le_of_ble_eq_true rfl, Nat.le_of_ble_eq_true rfl⟩) hK hE hPs.left kz_P0 (kz_D0 hDs.left hAE) (Nat.le_trans hsz hS.1) hS hF (kz_recv 0 hK hPs.left rfl rfl) rfl hl.1 rfl (Nat.le_of_ble_eq_true rfl) dL_law_186 ⟨(show 43 + 4 * i + 4 + 0 ≤ 622252 by omega), (show 271 + 8 * i + 8 + 0 ≤ 7235492 by omega)⟩ (fun r u H186 locs hp hP1 hD1 hz1 hk1 hS => ?_)
          obtain ⟨g2, q2, kb2, sc2⟩ := u
          obtain ⟨hr1, hp⟩ := hp
          rw [if_pos ((whl_r hB.2).trans c0)] at hp
          obtain ⟨e1, e2, e3⟩ := hp
          have e1 : g2 = crg gm qm := e1
          have e2 : q2 = mcq gm qm (crm gm) := e2
          have e3 : kb2 = kb := e3
          subst hr1
          have hP1 : va_P D vwCl (LM cy am g2 q2 kb2 sc2) H186 := hP1
          have hD1 : va_D _ (LM cy am g2 q2 kb2 sc2) := hD1
          rw [e1, e2, e3] at hP1 hD1
          obtain ⟨hP, hD⟩ := lj_join (X1 := LM cy am (crg gm qm) (mcq gm qm (crm gm)) (kb) sc2) hPs hDs hk1 hF hP1 hD1
          have hP := lj_swP hP
          have hD := lj_sw hD
          have hE := hE0.kept hAE hS
          refine kt_icmp_eq (tgt := 707) hx hb dL_law_189 (by decide) rfl rfl (fun c189 => ?_) (fun c189 => absurd (congrArg Int32.toInt (a_court hB.2).symm) c189)
          refine kn_iinc (k := 3) (x := 5 * i) (d := 5) (lv' := [(3, .int (nI (5 * i + 5))), (0, .ref b), (1, .ref (ax 0)), (2, .ref (am 0))]) hx hb dL_law_707 hl rfl (by decide) rfl (fun ls hl => ?_)
          refine lv_goto (tgt := 18) hx hb dL_law_710 (by decide) ?_
          refine W.widen (k := 43 + 4 * (i + 1)) (n := 271 + 8 * (i + 1)) (by omega) (by omega) ?_
          have hB1 := s_court hB c0
          exact ih18 () _ _ _ (by omega) ⟨_, _, _, _, _, _, _, _, _, _, _, hB1, hZ1, (show g 4 + 1 ≤ i + 1 by omega), (show gm 6 ≤ i + 1 by omega), by omega, hP, hD, hS, lv_sub hl [1, 2, 3, 0] rfl⟩
        · skip
          have hF := lj_free hD hS hA
          refine wr_Vi (As := []) (rest := []) ⟨hx, hb, hml, hown, hts⟩ (c_X7_court l D cy ev H.size ax g q bt rv pf hB.1) (kz_cwV 0 hts wm_238 wm_235 wm_236 wm_237 wm_2 rfl rfl (by decide +kernel) ⟨Nat.le_of_ble_eq_true rfl, Nat.le_of_ble_eq_true rfl⟩) hK hE hP.left kz_P0 (kz_D0 hD.left hAE) (Nat.le_trans hsz hS.1) hS hF (kz_recv 0 hK hP.left rfl rfl) rfl hl.1 rfl (Nat.le_of_ble_eq_true rfl) dL_law_182 ⟨(show 43 + 4 * i + 4 ≤ 622252 by omega), (show 271 + 8 * i + 8 ≤ 7235492 by omega)⟩ (fun r u H182 locs hp hP1 hD1 hz1 hk1 hS => ?_)
          obtain ⟨⟨g1, q1, bt1, rv1⟩, pf1, pa1, pz1⟩ := u
          obtain ⟨hr1, hp⟩ := hp
          rw [if_neg c0] at hp
          obtain ⟨e1, e2, e3, e4, e5⟩ := hp
          have e1 : g1 = g := e1
          have e2 : q1 = q := e2
          have e3 : bt1 = bt := e3
          have e4 : pf1 = pf := e4
          have e5 : pz1 = [] := e5
          subst hr1
          have hP1 : va_P D vwCl (LX cy ax g1 q1 bt1 rv1 pf1 ++ pz1) H182 := hP1
          have hD1 : va_D _ (LX cy ax g1 q1 bt1 rv1 pf1 ++ pz1) := hD1
          rw [e1, e2, e3, e4, e5] at hP1 hD1
          obtain ⟨hP, hD⟩ := lj_join (X1 := LX cy ax g q bt rv1 pf ++ []) hP hD hk1 hF hP1 hD1
          rw [List.append_nil] at hP hD
          have hE := hE0.kept hAE hS
          refine lv_aload_n hx hb dL_law_185 rfl (lv_at hl 2 rfl) ?_
          have hPs := lj_swP hP
          have hDs := lj_sw hD
          have hF := lj_free hDs hS hA
          refine wr_Vi (As := []) (rest := [.int (F_court g q)]) ⟨hx, hb, hml, hown, hts⟩ (c_X8_court l D cy ev H182.size am gm qm kb sc hY) (kz_cwV 0 hts wm_308 wm_305 wm_306 wm_307 wm_5 rfl rfl (by decide +kernel) ⟨Nat.le_of_ble_eq_true rfl, Nat.le_of_ble_eq_true rfl⟩) hK hE hPs.left kz_P0 (kz_D0 hDs.left hAE) (Nat.le_trans hsz hS.1) hS hF (kz_recv 0 hK hPs.left rfl rfl) rfl hl.1 rfl (Nat.le_of_ble_eq_true rfl) dL_law_186 ⟨(show 43 + 4 * i + 4 + 0 ≤ 622252 by omega), (show 271 + 8 * i + 8 + 0 ≤ 7235492 by omega)⟩ (fun r u H186 locs hp hP1 hD1 hz1 hk1 hS => ?_)
          obtain ⟨g2, q2, kb2, sc2⟩ := u
          obtain ⟨hr1, hp⟩ := hp
          rw [if_neg (fun h9 => c0 ((whl_r hB.2).symm.trans h9))] at hp
          obtain ⟨e1, e2, e3⟩ := hp
          have e1 : g2 = gm := e1
          have e2 : q2 = qm := e2
          have e3 : kb2 = kb := e3
          subst hr1
          have hP1 : va_P D vwCl (LM cy am g2 q2 kb2 sc2) H186 := hP1
          have hD1 : va_D _ (LM cy am g2 q2 kb2 sc2) := hD1
          rw [e1, e2, e3] at hP1 hD1
          obtain ⟨hP, hD⟩ := lj_join (X1 := LM cy am (gm) (qm) (kb) sc2) hPs hDs hk1 hF hP1 hD1
          have hP := lj_swP hP
          have hD := lj_sw hD
          have hE := hE0.kept hAE hS
          refine kt_icmp_eq (tgt := 707) hx hb dL_law_189 (by decide) rfl rfl (fun c189 => ?_) (fun c189 => absurd (congrArg Int32.toInt (a_court hB.2).symm) c189)
          refine kn_iinc (k := 3) (x := 5 * i) (d := 5) (lv' := [(3, .int (nI (5 * i + 5))), (0, .ref b), (1, .ref (ax 0)), (2, .ref (am 0))]) hx hb dL_law_707 hl rfl (by decide) rfl (fun ls hl => ?_)
          refine lv_goto (tgt := 18) hx hb dL_law_710 (by decide) ?_
          refine W.widen (k := 43 + 4 * (i + 1)) (n := 271 + 8 * (i + 1)) (by omega) (by omega) ?_
          exact ih18 () _ _ _ (by omega) ⟨_, _, _, _, _, _, _, _, _, _, _, hB, hZ, (by omega), (by omega), by omega, hP, hD, hS, lv_sub hl [1, 2, 3, 0] rfl⟩
      · skip
        refine lv_tableIn (tgt := 194) (off := 162) hx hb dL_law_32 (by decide) (by decide) rfl (by decide) ?_
        refine lv_aload_n hx hb dL_law_194 rfl (lv_at hl 1 rfl) ?_
        refine lv_aload_n hx hb dL_law_195 rfl (lv_at hl 0 rfl) ?_
        refine lv_iload_n hx hb dL_law_196 rfl (lv_at hl 3 rfl) ?_
        refine lv_iconst (v := nI 1) hx hb dL_law_197 (by decide) ?_
        refine kn_iadd hx hb dL_law_198 ?_
        refine kn_sld hx hb hX hbl hbA hS (by omega) hL dL_law_199 ?_
        refine lv_aload_n hx hb dL_law_200 rfl (lv_at hl 0 rfl) ?_
        refine lv_iload_n hx hb dL_law_201 rfl (lv_at hl 3 rfl) ?_
        refine lv_iconst (v := nI 2) hx hb dL_law_202 (by decide) ?_
        refine kn_iadd hx hb dL_law_203 ?_
        refine kn_sld hx hb hX hbl hbA hS (by omega) hL dL_law_204 ?_
        refine ro_Vi (As := [.int (xs ((5 * i) + 1)), .int (xs ((5 * i) + 2))]) (rest := []) (v := F_about g q (xs ((5 * i) + 1)) (xs ((5 * i) + 2))) ⟨hx, hb, hml, hown, hts⟩ (c_X7_about l D cy ev ax g q bt rv pf pa pz hB.1 hZ (xs ((5 * i) + 1)) (xs ((5 * i) + 2))) (kz_cwV 2 hts wm_317 wm_314 wm_315 wm_316 wm_2 rfl rfl (by decide +kernel) ⟨Nat.le_of_ble_eq_true rfl, Nat.le_of_ble_eq_true rfl⟩) hK hE (hP.left.app hP.right.right) (kz_recv 0 hK hP.left rfl rfl) rfl hl.1 rfl (Nat.le_of_ble_eq_true rfl) dL_law_205 ⟨(show 43 + 4 * i + 0 ≤ 622252 by omega), (show 271 + 8 * i + 0 ≤ 7235492 by omega)⟩ ?_
        refine lv_aload_n hx hb dL_law_208 rfl (lv_at hl 2 rfl) ?_
        refine lv_aload_n hx hb dL_law_209 rfl (lv_at hl 0 rfl) ?_
        refine lv_iload_n hx hb dL_law_210 rfl (lv_at hl 3 rfl) ?_
        refine lv_iconst (v := nI 1) hx hb dL_law_211 (by decide) ?_
        refine kn_iadd hx hb dL_law_212 ?_
        refine kn_sld hx hb hX hbl hbA hS (by omega) hL dL_law_213 ?_
        refine lv_aload_n hx hb dL_law_214 rfl (lv_at hl 0 rfl) ?_
        refine lv_iload_n hx hb dL_law_215 rfl (lv_at hl 3 rfl) ?_
        refine lv_iconst (v := nI 2) hx hb dL_law_216 (by decide) ?_
        refine kn_iadd hx hb dL_law_217 ?_
        refine kn_sld hx hb hX hbl hbA hS (by omega) hL dL_law_218 ?_
        refine ro_Vi (As := [.int (xs ((5 * i) + 1)), .int (xs ((5 * i) + 2))]) (rest := [.int (F_about g q (xs ((5 * i) + 1)) (xs ((5 * i) + 2)))]) (v := F_about gm qm (xs ((5 * i) + 1)) (xs ((5 * i) + 2))) ⟨hx, hb, hml, hown, hts⟩ (c_X8_about l D cy ev am gm qm kb sc hY (xs ((5 * i) + 1)) (xs ((5 * i) + 2))) (kz_cwV 2 hts wm_393 wm_390 wm_391 wm_392 wm_5 rfl rfl (by decide +kernel) ⟨Nat.le_of_ble_eq_true rfl, Nat.le_of_ble_eq_true rfl⟩) hK hE hP.right.left (kz_recv 21 hK hP rfl rfl) rfl hl.1 rfl (Nat.le_of_ble_eq_true rfl) dL_law_219 ⟨(show 43 + 4 * i + 0 ≤ 622252 by omega), (show 271 + 8 * i + 0 ≤ 7235492 by omega)⟩ ?_
        refine kt_icmp_eq (tgt := 707) hx hb dL_law_222 (by decide) rfl rfl (fun c222 => ?_) (fun c222 => absurd (congrArg Int32.toInt (a_about hB.2 (xs ((5 * i) + 1)) (xs ((5 * i) + 2))).symm) c222)
        refine kn_iinc (k := 3) (x := 5 * i) (d := 5) (lv' := [(3, .int (nI (5 * i + 5))), (0, .ref b), (1, .ref (ax 0)), (2, .ref (am 0))]) hx hb dL_law_707 hl rfl (by decide) rfl (fun ls hl => ?_)
        refine lv_goto (tgt := 18) hx hb dL_law_710 (by decide) ?_
        refine W.widen (k := 43 + 4 * (i + 1)) (n := 271 + 8 * (i + 1)) (by omega) (by omega) ?_
        exact ih18 () _ _ _ (by omega) ⟨_, _, _, _, _, _, _, _, _, _, _, hB, hZ, (by omega), (by omega), by omega, hP, hD, hS, lv_sub hl [1, 2, 3, 0] rfl⟩
      · skip
        refine lv_tableIn (tgt := 227) (off := 195) hx hb dL_law_32 (by decide) (by decide) rfl (by decide) ?_
        refine lv_aload_n hx hb dL_law_227 rfl (lv_at hl 1 rfl) ?_
        refine lv_aload_n hx hb dL_law_228 rfl (lv_at hl 0 rfl) ?_
        refine lv_iload_n hx hb dL_law_229 rfl (lv_at hl 3 rfl) ?_
        refine lv_iconst (v := nI 1) hx hb dL_law_230 (by decide) ?_
        refine kn_iadd hx hb dL_law_231 ?_
        refine kn_sld hx hb hX hbl hbA hS (by omega) hL dL_law_232 ?_
        refine lv_aload_n hx hb dL_law_233 rfl (lv_at hl 0 rfl) ?_
        refine lv_iload_n hx hb dL_law_234 rfl (lv_at hl 3 rfl) ?_
        refine lv_iconst (v := nI 2) hx hb dL_law_235 (by decide) ?_
        refine kn_iadd hx hb dL_law_236 ?_
        refine kn_sld hx hb hX hbl hbA hS (by omega) hL dL_law_237 ?_
        refine ro_Vi (As := [.int (xs ((5 * i) + 1)), .int (xs ((5 * i) + 2))]) (rest := []) (v := F_as g q (xs ((5 * i) + 1)) (xs ((5 * i) + 2))) ⟨hx, hb, hml, hown, hts⟩ (c_X7_as l D cy ev ax g q bt rv pf pa pz hB.1 hZ (xs ((5 * i) + 1)) (xs ((5 * i) + 2))) (kz_cwV 2 hts wm_421 wm_418 wm_419 wm_420 wm_2 rfl rfl (by decide +kernel) ⟨Nat.le_of_ble_eq_true rfl, Nat.le_of_ble_eq_true rfl⟩) hK hE (hP.left.app hP.right.right) (kz_recv 0 hK hP.left rfl rfl) rfl hl.1 rfl (Nat.le_of_ble_eq_true rfl) dL_law_238 ⟨(show 43 + 4 * i + 0 ≤ 622252 by omega), (show 271 + 8 * i + 0 ≤ 7235492 by omega)⟩ ?_
        refine lv_aload_n hx hb dL_law_241 rfl (lv_at hl 2 rfl) ?_
        refine lv_aload_n hx hb dL_law_242 rfl (lv_at hl 0 rfl) ?_
        refine lv_iload_n hx hb dL_law_243 rfl (lv_at hl 3 rfl) ?_
        refine lv_iconst (v := nI 1) hx hb dL_law_244 (by decide) ?_
        refine kn_iadd hx hb dL_law_245 ?_
        refine kn_sld hx hb hX hbl hbA hS (by omega) hL dL_law_246 ?_
        refine lv_aload_n hx hb dL_law_247 rfl (lv_at hl 0 rfl) ?_
        refine lv_iload_n hx hb dL_law_248 rfl (lv_at hl 3 rfl) ?_
        refine lv_iconst (v := nI 2) hx hb dL_law_249 (by decide) ?_
        refine kn_iadd hx hb dL_law_250 ?_
        refine kn_sld hx hb hX hbl hbA hS (by omega) hL dL_law_251 ?_
        refine ro_Vi (As := [.int (xs ((5 * i) + 1)), .int (xs ((5 * i) + 2))]) (rest := [.int (F_as g q (xs ((5 * i) + 1)) (xs ((5 * i) + 2)))]) (v := F_as gm qm (xs ((5 * i) + 1)) (xs ((5 * i) + 2))) ⟨hx, hb, hml, hown, hts⟩ (c_X8_as l D cy ev am gm qm kb sc hY (xs ((5 * i) + 1)) (xs ((5 * i) + 2))) (kz_cwV 2 hts wm_432 wm_429 wm_430 wm_431 wm_5 rfl rfl (by decide +kernel) ⟨Nat.le_of_ble_eq_true rfl, Nat.le_of_ble_eq_true rfl⟩) hK hE hP.right.left (kz_recv 21 hK hP rfl rfl) rfl hl.1 rfl (Nat.le_of_ble_eq_true rfl) dL_law_252 ⟨(show 43 + 4 * i + 0 ≤ 622252 by omega), (show 271 + 8 * i + 0 ≤ 7235492 by omega)⟩ ?_
        refine kt_icmp_eq (tgt := 707) hx hb dL_law_255 (by decide) rfl rfl (fun c255 => ?_) (fun c255 => absurd (congrArg Int32.toInt (a_as hB.2 (xs ((5 * i) + 1)) (xs ((5 * i) + 2))).symm) c255)
        refine kn_iinc (k := 3) (x := 5 * i) (d := 5) (lv' := [(3, .int (nI (5 * i + 5))), (0, .ref b), (1, .ref (ax 0)), (2, .ref (am 0))]) hx hb dL_law_707 hl rfl (by decide) rfl (fun ls hl => ?_)
        refine lv_goto (tgt := 18) hx hb dL_law_710 (by decide) ?_
        refine W.widen (k := 43 + 4 * (i + 1)) (n := 271 + 8 * (i + 1)) (by omega) (by omega) ?_
        exact ih18 () _ _ _ (by omega) ⟨_, _, _, _, _, _, _, _, _, _, _, hB, hZ, (by omega), (by omega), by omega, hP, hD, hS, lv_sub hl [1, 2, 3, 0] rfl⟩
      · skip
        refine lv_tableIn (tgt := 260) (off := 228) hx hb dL_law_32 (by decide) (by decide) rfl (by decide) ?_
        refine lv_aload_n hx hb dL_law_260 rfl (lv_at hl 1 rfl) ?_
        refine lv_aload_n hx hb dL_law_261 rfl (lv_at hl 0 rfl) ?_
        refine lv_iload_n hx hb dL_law_262 rfl (lv_at hl 3 rfl) ?_
        refine lv_iconst (v := nI 1) hx hb dL_law_263 (by decide) ?_
        refine kn_iadd hx hb dL_law_264 ?_
        refine kn_sld hx hb hX hbl hbA hS (by omega) hL dL_law_265 ?_
        refine lv_aload_n hx hb dL_law_266 rfl (lv_at hl 0 rfl) ?_
        refine lv_iload_n hx hb dL_law_267 rfl (lv_at hl 3 rfl) ?_
        refine lv_iconst (v := nI 2) hx hb dL_law_268 (by decide) ?_
        refine kn_iadd hx hb dL_law_269 ?_
        refine kn_sld hx hb hX hbl hbA hS (by omega) hL dL_law_270 ?_
        have hF := lj_free hD hS hA
        refine wr_Vi (As := [.int (xs ((5 * i) + 1)), .int (xs ((5 * i) + 2))]) (rest := []) ⟨hx, hb, hml, hown, hts⟩ (c_X7_butter l D cy ev H.size ax g q bt rv pf pa pz hB.1 hZ (xs ((5 * i) + 1)) (xs ((5 * i) + 2))) (kz_cwV 2 hts wm_436 wm_433 wm_434 wm_435 wm_2 rfl rfl (by decide +kernel) ⟨Nat.le_of_ble_eq_true rfl, Nat.le_of_ble_eq_true rfl⟩) hK hE hP.left hP.right.right ((lj_xz hD).weaken (fun _ q9 _ h => hAE q9.1 h)) (Nat.le_trans hsz hS.1) hS hF (kz_recv 0 hK hP.left rfl rfl) rfl hl.1 rfl (Nat.le_of_ble_eq_true rfl) dL_law_271 ⟨(show 43 + 4 * i + 0 ≤ 622252 by omega), (show 271 + 8 * i + 0 ≤ 7235492 by omega)⟩ (fun r u H271 locs hp hP1 hD1 hz1 hk1 hS => ?_)
        obtain ⟨g1, q1, bt1, rv1⟩ := u
        obtain ⟨hr1, e1, e2, e3⟩ := hp
        have e1 : g1 = g := e1
        have e2 : q1 = N_butter g q (xs ((5 * i) + 1)) (xs ((5 * i) + 2)) := e2
        have e3 : bt1 = bt := e3
        subst hr1
        have hP1 : va_P D vwCl (LX cy ax g1 q1 bt1 rv1 pf) H271 := hP1
        have hD1 : va_D _ (LX cy ax g1 q1 bt1 rv1 pf) := hD1
        rw [e1, e2, e3] at hP1 hD1
        obtain ⟨hP, hD⟩ := lj_join (X1 := LX cy ax (g) (N_butter g q (xs ((5 * i) + 1)) (xs ((5 * i) + 2))) (bt) rv1 pf) hP hD hk1 hF hP1 hD1
        have hE := hE0.kept hAE hS
        refine lv_aload_n hx hb dL_law_274 rfl (lv_at hl 2 rfl) ?_
        refine lv_aload_n hx hb dL_law_275 rfl (lv_at hl 0 rfl) ?_
        refine lv_iload_n hx hb dL_law_276 rfl (lv_at hl 3 rfl) ?_
        refine lv_iconst (v := nI 1) hx hb dL_law_277 (by decide) ?_
        refine kn_iadd hx hb dL_law_278 ?_
        refine kn_sld hx hb hX hbl hbA hS (by omega) hL dL_law_279 ?_
        refine lv_aload_n hx hb dL_law_280 rfl (lv_at hl 0 rfl) ?_
        refine lv_iload_n hx hb dL_law_281 rfl (lv_at hl 3 rfl) ?_
        refine lv_iconst (v := nI 2) hx hb dL_law_282 (by decide) ?_
        refine kn_iadd hx hb dL_law_283 ?_
        refine kn_sld hx hb hX hbl hbA hS (by omega) hL dL_law_284 ?_
        have hPs := lj_swP hP
        have hDs := lj_sw hD
        have hF := lj_free hDs hS hA
        refine wr_Vi (As := [.int (xs ((5 * i) + 1)), .int (xs ((5 * i) + 2))]) (rest := [.int (F_butter g q (xs ((5 * i) + 1)) (xs ((5 * i) + 2)))]) ⟨hx, hb, hml, hown, hts⟩ (c_X8_butter l D cy ev H271.size am gm qm kb sc hY (xs ((5 * i) + 1)) (xs ((5 * i) + 2))) (kz_cwV 2 hts wm_440 wm_437 wm_438 wm_439 wm_5 rfl rfl (by decide +kernel) ⟨Nat.le_of_ble_eq_true rfl, Nat.le_of_ble_eq_true rfl⟩) hK hE hPs.left kz_P0 (kz_D0 hDs.left hAE) (Nat.le_trans hsz hS.1) hS hF (kz_recv 0 hK hPs.left rfl rfl) rfl hl.1 rfl (Nat.le_of_ble_eq_true rfl) dL_law_285 ⟨(show 43 + 4 * i + 0 ≤ 622252 by omega), (show 271 + 8 * i + 0 ≤ 7235492 by omega)⟩ (fun r u H285 locs hp hP1 hD1 hz1 hk1 hS => ?_)
        obtain ⟨g2, q2, kb2, sc2⟩ := u
        obtain ⟨hr1, e1, e2, e3⟩ := hp
        have e1 : g2 = gm := e1
        have e2 : q2 = N_butter gm qm (xs ((5 * i) + 1)) (xs ((5 * i) + 2)) := e2
        have e3 : kb2 = kb := e3
        subst hr1
        have hP1 : va_P D vwCl (LM cy am g2 q2 kb2 sc2) H285 := hP1
        have hD1 : va_D _ (LM cy am g2 q2 kb2 sc2) := hD1
        rw [e1, e2, e3] at hP1 hD1
        obtain ⟨hP, hD⟩ := lj_join (X1 := LM cy am (gm) (N_butter gm qm (xs ((5 * i) + 1)) (xs ((5 * i) + 2))) (kb) sc2) hPs hDs hk1 hF hP1 hD1
        have hP := lj_swP hP
        have hD := lj_sw hD
        have hE := hE0.kept hAE hS
        refine kt_icmp_eq (tgt := 707) hx hb dL_law_288 (by decide) rfl rfl (fun c288 => ?_) (fun c288 => absurd (congrArg Int32.toInt (a_butter hB.2 (xs ((5 * i) + 1)) (xs ((5 * i) + 2))).symm) c288)
        refine kn_iinc (k := 3) (x := 5 * i) (d := 5) (lv' := [(3, .int (nI (5 * i + 5))), (0, .ref b), (1, .ref (ax 0)), (2, .ref (am 0))]) hx hb dL_law_707 hl rfl (by decide) rfl (fun ls hl => ?_)
        refine lv_goto (tgt := 18) hx hb dL_law_710 (by decide) ?_
        refine W.widen (k := 43 + 4 * (i + 1)) (n := 271 + 8 * (i + 1)) (by omega) (by omega) ?_
        have hB1 := s_butter hB (xs ((5 * i) + 1)) (xs ((5 * i) + 2))
        have hkp := kp_butter (g := g) (q := q) (xs ((5 * i) + 1)) (xs ((5 * i) + 2))
        exact ih18 () _ _ _ (by omega) ⟨_, _, _, _, _, _, _, _, _, _, _, hB1, (hZ.to hkp), (by rw [hkp.2.1]; omega), (show gm 6 ≤ i + 1 by omega), by omega, hP, hD, hS, lv_sub hl [1, 2, 3, 0] rfl⟩
      · skip
        refine lv_tableIn (tgt := 293) (off := 261) hx hb dL_law_32 (by decide) (by decide) rfl (by decide) ?_
        refine lv_aload_n hx hb dL_law_293 rfl (lv_at hl 1 rfl) ?_
        refine lv_aload_n hx hb dL_law_294 rfl (lv_at hl 0 rfl) ?_
        refine lv_iload_n hx hb dL_law_295 rfl (lv_at hl 3 rfl) ?_
        refine lv_iconst (v := nI 1) hx hb dL_law_296 (by decide) ?_
        refine kn_iadd hx hb dL_law_297 ?_
        refine kn_sld hx hb hX hbl hbA hS (by omega) hL dL_law_298 ?_
        have hF := lj_free hD hS hA
        refine wr_Vi (As := [.int (xs ((5 * i) + 1))]) (rest := []) ⟨hx, hb, hml, hown, hts⟩ (c_X7_loaf l D cy ev H.size ax g q bt rv pf hB.1 (xs ((5 * i) + 1))) (kz_cwV 1 hts wm_444 wm_441 wm_442 wm_443 wm_2 rfl rfl (by decide +kernel) ⟨Nat.le_of_ble_eq_true rfl, Nat.le_of_ble_eq_true rfl⟩) hK hE hP.left kz_P0 (kz_D0 hD.left hAE) (Nat.le_trans hsz hS.1) hS hF (kz_recv 0 hK hP.left rfl rfl) rfl hl.1 rfl (Nat.le_of_ble_eq_true rfl) dL_law_299 ⟨(show 43 + 4 * i + 0 ≤ 622252 by omega), (show 271 + 8 * i + 0 ≤ 7235492 by omega)⟩ (fun r u H299 locs hp hP1 hD1 hz1 hk1 hS => ?_)
        obtain ⟨g1, q1, bt1, rv1⟩ := u
        obtain ⟨hr1, e1, e2, e3⟩ := hp
        have e1 : g1 = N_loaf g (xs ((5 * i) + 1)) := e1
        have e2 : q1 = q := e2
        have e3 : bt1 = bt := e3
        subst hr1
        have hP1 : va_P D vwCl (LX cy ax g1 q1 bt1 rv1 pf) H299 := hP1
        have hD1 : va_D _ (LX cy ax g1 q1 bt1 rv1 pf) := hD1
        rw [e1, e2, e3] at hP1 hD1
        obtain ⟨hP, hD⟩ := lj_join (X1 := LX cy ax (N_loaf g (xs ((5 * i) + 1))) (q) (bt) rv1 pf) hP hD hk1 hF hP1 hD1
        have hE := hE0.kept hAE hS
        refine lv_aload_n hx hb dL_law_302 rfl (lv_at hl 2 rfl) ?_
        refine lv_aload_n hx hb dL_law_303 rfl (lv_at hl 0 rfl) ?_
        refine lv_iload_n hx hb dL_law_304 rfl (lv_at hl 3 rfl) ?_
        refine lv_iconst (v := nI 1) hx hb dL_law_305 (by decide) ?_
        refine kn_iadd hx hb dL_law_306 ?_
        refine kn_sld hx hb hX hbl hbA hS (by omega) hL dL_law_307 ?_
        have hPs := lj_swP hP
        have hDs := lj_sw hD
        have hF := lj_free hDs hS hA
        refine wr_Vi (As := [.int (xs ((5 * i) + 1))]) (rest := [.int (F_loaf g (xs ((5 * i) + 1)))]) ⟨hx, hb, hml, hown, hts⟩ (c_X8_loaf l D cy ev H299.size am gm qm kb sc hY (xs ((5 * i) + 1))) (kz_cwV 1 hts wm_448 wm_445 wm_446 wm_447 wm_5 rfl rfl (by decide +kernel) ⟨Nat.le_of_ble_eq_true rfl, Nat.le_of_ble_eq_true rfl⟩) hK hE hPs.left kz_P0 (kz_D0 hDs.left hAE) (Nat.le_trans hsz hS.1) hS hF (kz_recv 0 hK hPs.left rfl rfl) rfl hl.1 rfl (Nat.le_of_ble_eq_true rfl) dL_law_308 ⟨(show 43 + 4 * i + 0 ≤ 622252 by omega), (show 271 + 8 * i + 0 ≤ 7235492 by omega)⟩ (fun r u H308 locs hp hP1 hD1 hz1 hk1 hS => ?_)
        obtain ⟨g2, q2, kb2, sc2⟩ := u
        obtain ⟨hr1, e1, e2, e3⟩ := hp
        have e1 : g2 = N_loaf gm (xs ((5 * i) + 1)) := e1
        have e2 : q2 = qm := e2
        have e3 : kb2 = kb := e3
        subst hr1
        have hP1 : va_P D vwCl (LM cy am g2 q2 kb2 sc2) H308 := hP1
        have hD1 : va_D _ (LM cy am g2 q2 kb2 sc2) := hD1
        rw [e1, e2, e3] at hP1 hD1
        obtain ⟨hP, hD⟩ := lj_join (X1 := LM cy am (N_loaf gm (xs ((5 * i) + 1))) (qm) (kb) sc2) hPs hDs hk1 hF hP1 hD1
        have hP := lj_swP hP
        have hD := lj_sw hD
        have hE := hE0.kept hAE hS
        refine kt_icmp_eq (tgt := 707) hx hb dL_law_311 (by decide) rfl rfl (fun c311 => ?_) (fun c311 => absurd (congrArg Int32.toInt (a_loaf hB.2 (xs ((5 * i) + 1))).symm) c311)
        refine kn_iinc (k := 3) (x := 5 * i) (d := 5) (lv' := [(3, .int (nI (5 * i + 5))), (0, .ref b), (1, .ref (ax 0)), (2, .ref (am 0))]) hx hb dL_law_707 hl rfl (by decide) rfl (fun ls hl => ?_)
        refine lv_goto (tgt := 18) hx hb dL_law_710 (by decide) ?_
        refine W.widen (k := 43 + 4 * (i + 1)) (n := 271 + 8 * (i + 1)) (by omega) (by omega) ?_
        have hB1 := s_loaf hB (xs ((5 * i) + 1))
        have hkp := kp_loaf (g := g) (q := q) (xs ((5 * i) + 1))
        exact ih18 () _ _ _ (by omega) ⟨_, _, _, _, _, _, _, _, _, _, _, hB1, (hZ.to hkp), (by rw [hkp.2.1]; omega), (by rw [k6_loaf (xs ((5 * i) + 1))]; omega), by omega, hP, hD, hS, lv_sub hl [1, 2, 3, 0] rfl⟩
      · skip
        refine lv_tableIn (tgt := 316) (off := 284) hx hb dL_law_32 (by decide) (by decide) rfl (by decide) ?_
        refine lv_aload_n hx hb dL_law_316 rfl (lv_at hl 1 rfl) ?_
        refine lv_aload_n hx hb dL_law_317 rfl (lv_at hl 0 rfl) ?_
        refine lv_iload_n hx hb dL_law_318 rfl (lv_at hl 3 rfl) ?_
        refine lv_iconst (v := nI 1) hx hb dL_law_319 (by decide) ?_
        refine kn_iadd hx hb dL_law_320 ?_
        refine kn_sld hx hb hX hbl hbA hS (by omega) hL dL_law_321 ?_
        refine lv_aload_n hx hb dL_law_322 rfl (lv_at hl 0 rfl) ?_
        refine lv_iload_n hx hb dL_law_323 rfl (lv_at hl 3 rfl) ?_
        refine lv_iconst (v := nI 2) hx hb dL_law_324 (by decide) ?_
        refine kn_iadd hx hb dL_law_325 ?_
        refine kn_sld hx hb hX hbl hbA hS (by omega) hL dL_law_326 ?_
        refine kt_if_eq (tgt := 334) hx hb dL_law_327 (by decide) rfl (fun c327 => ?_) (fun c327 => ?_)
        · skip
          refine lv_iconst (v := nI 0) hx hb dL_law_334 (by decide) ?_
          refine kn_as (st' := [.int (bI false), .int (xs ((5 * i) + 1)), .ref (ax 0)]) rfl ?_
          have hF := lj_free hD hS hA
          refine wr_Vi (As := [.int (xs ((5 * i) + 1)), .int (bI false)]) (rest := []) ⟨hx, hb, hml, hown, hts⟩ (c_X7_eat l D cy ev H.size ax g q bt rv pf pa pz hB.1 hZ (xs ((5 * i) + 1)) false) (kz_cwV 2 hts wm_452 wm_449 wm_450 wm_451 wm_2 rfl rfl (by decide +kernel) ⟨Nat.le_of_ble_eq_true rfl, Nat.le_of_ble_eq_true rfl⟩) hK hE hP.left hP.right.right ((lj_xz hD).weaken (fun _ q9 _ h => hAE q9.1 h)) (Nat.le_trans hsz hS.1) hS hF (kz_recv 0 hK hP.left rfl rfl) rfl hl.1 rfl (Nat.le_of_ble_eq_true rfl) dL_law_335 ⟨(show 43 + 4 * i + 0 ≤ 622252 by omega), (show 271 + 8 * i + 0 ≤ 7235492 by omega)⟩ (fun r u H335 locs hp hP1 hD1 hz1 hk1 hS => ?_)
          obtain ⟨g1, q1, bt1, rv1⟩ := u
          obtain ⟨hr1, e1, e2, e3⟩ := hp
          have e1 : g1 = N_eatg g q (xs ((5 * i) + 1)) false := e1
          have e2 : q1 = N_eatq g q (xs ((5 * i) + 1)) false := e2
          have e3 : bt1 = bt := e3
          subst hr1
          have hP1 : va_P D vwCl (LX cy ax g1 q1 bt1 rv1 pf) H335 := hP1
          have hD1 : va_D _ (LX cy ax g1 q1 bt1 rv1 pf) := hD1
          rw [e1, e2, e3] at hP1 hD1
          obtain ⟨hP, hD⟩ := lj_join (X1 := LX cy ax (N_eatg g q (xs ((5 * i) + 1)) false) (N_eatq g q (xs ((5 * i) + 1)) false) (bt) rv1 pf) hP hD hk1 hF hP1 hD1
          have hE := hE0.kept hAE hS
          refine lv_aload_n hx hb dL_law_338 rfl (lv_at hl 2 rfl) ?_
          refine lv_aload_n hx hb dL_law_339 rfl (lv_at hl 0 rfl) ?_
          refine lv_iload_n hx hb dL_law_340 rfl (lv_at hl 3 rfl) ?_
          refine lv_iconst (v := nI 1) hx hb dL_law_341 (by decide) ?_
          refine kn_iadd hx hb dL_law_342 ?_
          refine kn_sld hx hb hX hbl hbA hS (by omega) hL dL_law_343 ?_
          refine lv_aload_n hx hb dL_law_344 rfl (lv_at hl 0 rfl) ?_
          refine lv_iload_n hx hb dL_law_345 rfl (lv_at hl 3 rfl) ?_
          refine lv_iconst (v := nI 2) hx hb dL_law_346 (by decide) ?_
          refine kn_iadd hx hb dL_law_347 ?_
          refine kn_sld hx hb hX hbl hbA hS (by omega) hL dL_law_348 ?_
          refine kt_if_eq (tgt := 356) hx hb dL_law_349 (by decide) rfl (fun c349 => ?_) (fun c349 => absurd c349 (by omega))
          refine lv_iconst (v := nI 0) hx hb dL_law_356 (by decide) ?_
          refine kn_as (st' := [.int (bI false), .int (xs ((5 * i) + 1)), .ref (am 0), .int (F_eat g q (xs ((5 * i) + 1)) false)]) rfl ?_
          have hPs := lj_swP hP
          have hDs := lj_sw hD
          have hF := lj_free hDs hS hA
          refine wr_Vi (As := [.int (xs ((5 * i) + 1)), .int (bI false)]) (rest := [.int (F_eat g q (xs ((5 * i) + 1)) false)]) ⟨hx, hb, hml, hown, hts⟩ (c_X8_eat l D cy ev H335.size am gm qm kb sc hY (xs ((5 * i) + 1)) false) (kz_cwV 2 hts wm_472 wm_469 wm_470 wm_471 wm_5 rfl rfl (by decide +kernel) ⟨Nat.le_of_ble_eq_true rfl, Nat.le_of_ble_eq_true rfl⟩) hK hE hPs.left kz_P0 (kz_D0 hDs.left hAE) (Nat.le_trans hsz hS.1) hS hF (kz_recv 0 hK hPs.left rfl rfl) rfl hl.1 rfl (Nat.le_of_ble_eq_true rfl) dL_law_357 ⟨(show 43 + 4 * i + 0 ≤ 622252 by omega), (show 271 + 8 * i + 0 ≤ 7235492 by omega)⟩ (fun r u H357 locs hp hP1 hD1 hz1 hk1 hS => ?_)
          obtain ⟨g2, q2, kb2, sc2⟩ := u
          obtain ⟨hr1, e1, e2, e3⟩ := hp
          have e1 : g2 = N_eatg gm qm (xs ((5 * i) + 1)) false := e1
          have e2 : q2 = meq gm qm (xs ((5 * i) + 1)) false := e2
          have e3 : kb2 = kb := e3
          subst hr1
          have hP1 : va_P D vwCl (LM cy am g2 q2 kb2 sc2) H357 := hP1
          have hD1 : va_D _ (LM cy am g2 q2 kb2 sc2) := hD1
          rw [e1, e2, e3] at hP1 hD1
          obtain ⟨hP, hD⟩ := lj_join (X1 := LM cy am (N_eatg gm qm (xs ((5 * i) + 1)) false) (meq gm qm (xs ((5 * i) + 1)) false) (kb) sc2) hPs hDs hk1 hF hP1 hD1
          have hP := lj_swP hP
          have hD := lj_sw hD
          have hE := hE0.kept hAE hS
          refine kt_icmp_eq (tgt := 707) hx hb dL_law_360 (by decide) rfl rfl (fun c360 => ?_) (fun c360 => absurd (congrArg Int32.toInt (a_eat hB.2 (xs ((5 * i) + 1)) false).symm) c360)
          refine kn_iinc (k := 3) (x := 5 * i) (d := 5) (lv' := [(3, .int (nI (5 * i + 5))), (0, .ref b), (1, .ref (ax 0)), (2, .ref (am 0))]) hx hb dL_law_707 hl rfl (by decide) rfl (fun ls hl => ?_)
          refine lv_goto (tgt := 18) hx hb dL_law_710 (by decide) ?_
          refine W.widen (k := 43 + 4 * (i + 1)) (n := 271 + 8 * (i + 1)) (by omega) (by omega) ?_
          have hB1 := s_eat hB (xs ((5 * i) + 1)) false
          have hkp := kp_eat (g := g) (q := q) (xs ((5 * i) + 1)) false
          exact ih18 () _ _ _ (by omega) ⟨_, _, _, _, _, _, _, _, _, _, _, hB1, (hZ.to hkp), (by rw [hkp.2.1]; omega), (by rw [k6_eat (xs ((5 * i) + 1)) false]; omega), by omega, hP, hD, hS, lv_sub hl [1, 2, 3, 0] rfl⟩
        · skip
          refine lv_iconst (v := nI 1) hx hb dL_law_330 (by decide) ?_
          refine lv_goto (tgt := 335) hx hb dL_law_331 (by decide) ?_
          refine kn_as (st' := [.int (bI true), .int (xs ((5 * i) + 1)), .ref (ax 0)]) rfl ?_
          have hF := lj_free hD hS hA
          refine wr_Vi (As := [.int (xs ((5 * i) + 1)), .int (bI true)]) (rest := []) ⟨hx, hb, hml, hown, hts⟩ (c_X7_eat l D cy ev H.size ax g q bt rv pf pa pz hB.1 hZ (xs ((5 * i) + 1)) true) (kz_cwV 2 hts wm_452 wm_449 wm_450 wm_451 wm_2 rfl rfl (by decide +kernel) ⟨Nat.le_of_ble_eq_true rfl, Nat.le_of_ble_eq_true rfl⟩) hK hE hP.left hP.right.right ((lj_xz hD).weaken (fun _ q9 _ h => hAE q9.1 h)) (Nat.le_trans hsz hS.1) hS hF (kz_recv 0 hK hP.left rfl rfl) rfl hl.1 rfl (Nat.le_of_ble_eq_true rfl) dL_law_335 ⟨(show 43 + 4 * i + 0 ≤ 622252 by omega), (show 271 + 8 * i + 0 ≤ 7235492 by omega)⟩ (fun r u H335 locs hp hP1 hD1 hz1 hk1 hS => ?_)
          obtain ⟨g1, q1, bt1, rv1⟩ := u
          obtain ⟨hr1, e1, e2, e3⟩ := hp
          have e1 : g1 = N_eatg g q (xs ((5 * i) + 1)) true := e1
          have e2 : q1 = N_eatq g q (xs ((5 * i) + 1)) true := e2
          have e3 : bt1 = bt := e3
          subst hr1
          have hP1 : va_P D vwCl (LX cy ax g1 q1 bt1 rv1 pf) H335 := hP1
          have hD1 : va_D _ (LX cy ax g1 q1 bt1 rv1 pf) := hD1
          rw [e1, e2, e3] at hP1 hD1
          obtain ⟨hP, hD⟩ := lj_join (X1 := LX cy ax (N_eatg g q (xs ((5 * i) + 1)) true) (N_eatq g q (xs ((5 * i) + 1)) true) (bt) rv1 pf) hP hD hk1 hF hP1 hD1
          have hE := hE0.kept hAE hS
          refine lv_aload_n hx hb dL_law_338 rfl (lv_at hl 2 rfl) ?_
          refine lv_aload_n hx hb dL_law_339 rfl (lv_at hl 0 rfl) ?_
          refine lv_iload_n hx hb dL_law_340 rfl (lv_at hl 3 rfl) ?_
          refine lv_iconst (v := nI 1) hx hb dL_law_341 (by decide) ?_
          refine kn_iadd hx hb dL_law_342 ?_
          refine kn_sld hx hb hX hbl hbA hS (by omega) hL dL_law_343 ?_
          refine lv_aload_n hx hb dL_law_344 rfl (lv_at hl 0 rfl) ?_
          refine lv_iload_n hx hb dL_law_345 rfl (lv_at hl 3 rfl) ?_
          refine lv_iconst (v := nI 2) hx hb dL_law_346 (by decide) ?_
          refine kn_iadd hx hb dL_law_347 ?_
          refine kn_sld hx hb hX hbl hbA hS (by omega) hL dL_law_348 ?_
          refine kt_if_eq (tgt := 356) hx hb dL_law_349 (by decide) rfl (fun c349 => absurd c349 (by omega)) (fun c349 => ?_)
          refine lv_iconst (v := nI 1) hx hb dL_law_352 (by decide) ?_
          refine lv_goto (tgt := 357) hx hb dL_law_353 (by decide) ?_
          refine kn_as (st' := [.int (bI true), .int (xs ((5 * i) + 1)), .ref (am 0), .int (F_eat g q (xs ((5 * i) + 1)) true)]) rfl ?_
          have hPs := lj_swP hP
          have hDs := lj_sw hD
          have hF := lj_free hDs hS hA
          refine wr_Vi (As := [.int (xs ((5 * i) + 1)), .int (bI true)]) (rest := [.int (F_eat g q (xs ((5 * i) + 1)) true)]) ⟨hx, hb, hml, hown, hts⟩ (c_X8_eat l D cy ev H335.size am gm qm kb sc hY (xs ((5 * i) + 1)) true) (kz_cwV 2 hts wm_472 wm_469 wm_470 wm_471 wm_5 rfl rfl (by decide +kernel) ⟨Nat.le_of_ble_eq_true rfl, Nat.le_of_ble_eq_true rfl⟩) hK hE hPs.left kz_P0 (kz_D0 hDs.left hAE) (Nat.le_trans hsz hS.1) hS hF (kz_recv 0 hK hPs.left rfl rfl) rfl hl.1 rfl (Nat.le_of_ble_eq_true rfl) dL_law_357 ⟨(show 43 + 4 * i + 0 ≤ 622252 by omega), (show 271 + 8 * i + 0 ≤ 7235492 by omega)⟩ (fun r u H357 locs hp hP1 hD1 hz1 hk1 hS => ?_)
          obtain ⟨g2, q2, kb2, sc2⟩ := u
          obtain ⟨hr1, e1, e2, e3⟩ := hp
          have e1 : g2 = N_eatg gm qm (xs ((5 * i) + 1)) true := e1
          have e2 : q2 = meq gm qm (xs ((5 * i) + 1)) true := e2
          have e3 : kb2 = kb := e3
          subst hr1
          have hP1 : va_P D vwCl (LM cy am g2 q2 kb2 sc2) H357 := hP1
          have hD1 : va_D _ (LM cy am g2 q2 kb2 sc2) := hD1
          rw [e1, e2, e3] at hP1 hD1
          obtain ⟨hP, hD⟩ := lj_join (X1 := LM cy am (N_eatg gm qm (xs ((5 * i) + 1)) true) (meq gm qm (xs ((5 * i) + 1)) true) (kb) sc2) hPs hDs hk1 hF hP1 hD1
          have hP := lj_swP hP
          have hD := lj_sw hD
          have hE := hE0.kept hAE hS
          refine kt_icmp_eq (tgt := 707) hx hb dL_law_360 (by decide) rfl rfl (fun c360 => ?_) (fun c360 => absurd (congrArg Int32.toInt (a_eat hB.2 (xs ((5 * i) + 1)) true).symm) c360)
          refine kn_iinc (k := 3) (x := 5 * i) (d := 5) (lv' := [(3, .int (nI (5 * i + 5))), (0, .ref b), (1, .ref (ax 0)), (2, .ref (am 0))]) hx hb dL_law_707 hl rfl (by decide) rfl (fun ls hl => ?_)
          refine lv_goto (tgt := 18) hx hb dL_law_710 (by decide) ?_
          refine W.widen (k := 43 + 4 * (i + 1)) (n := 271 + 8 * (i + 1)) (by omega) (by omega) ?_
          have hB1 := s_eat hB (xs ((5 * i) + 1)) true
          have hkp := kp_eat (g := g) (q := q) (xs ((5 * i) + 1)) true
          exact ih18 () _ _ _ (by omega) ⟨_, _, _, _, _, _, _, _, _, _, _, hB1, (hZ.to hkp), (by rw [hkp.2.1]; omega), (by rw [k6_eat (xs ((5 * i) + 1)) true]; omega), by omega, hP, hD, hS, lv_sub hl [1, 2, 3, 0] rfl⟩
      · skip
        refine lv_tableIn (tgt := 365) (off := 333) hx hb dL_law_32 (by decide) (by decide) rfl (by decide) ?_
        refine lv_aload_n hx hb dL_law_365 rfl (lv_at hl 1 rfl) ?_
        refine lv_aload_n hx hb dL_law_366 rfl (lv_at hl 0 rfl) ?_
        refine lv_iload_n hx hb dL_law_367 rfl (lv_at hl 3 rfl) ?_
        refine lv_iconst (v := nI 1) hx hb dL_law_368 (by decide) ?_
        refine kn_iadd hx hb dL_law_369 ?_
        refine kn_sld hx hb hX hbl hbA hS (by omega) hL dL_law_370 ?_
        refine lv_aload_n hx hb dL_law_371 rfl (lv_at hl 0 rfl) ?_
        refine lv_iload_n hx hb dL_law_372 rfl (lv_at hl 3 rfl) ?_
        refine lv_iconst (v := nI 2) hx hb dL_law_373 (by decide) ?_
        refine kn_iadd hx hb dL_law_374 ?_
        refine kn_sld hx hb hX hbl hbA hS (by omega) hL dL_law_375 ?_
        refine ro_Vl (As := [.int (xs ((5 * i) + 1)), .int (xs ((5 * i) + 2))]) (rest := []) (v := F_belief g q (xs ((5 * i) + 1)) (xs ((5 * i) + 2))) ⟨hx, hb, hml, hown, hts⟩ (c_X7_belief l D cy ev ax g q bt rv pf pa pz hB.1 hZ (xs ((5 * i) + 1)) (xs ((5 * i) + 2))) (kz_cwV 2 hts wm_499 wm_496 wm_497 wm_498 wm_2 rfl rfl (by decide +kernel) ⟨Nat.le_of_ble_eq_true rfl, Nat.le_of_ble_eq_true rfl⟩) hK hE (hP.left.app hP.right.right) (kz_recv 0 hK hP.left rfl rfl) rfl hl.1 rfl (Nat.le_of_ble_eq_true rfl) dL_law_376 ⟨(show 43 + 4 * i + 0 ≤ 622252 by omega), (show 271 + 8 * i + 0 ≤ 7235492 by omega)⟩ ?_
        refine lv_aload_n hx hb dL_law_379 rfl (lv_at hl 2 rfl) ?_
        refine lv_aload_n hx hb dL_law_380 rfl (lv_at hl 0 rfl) ?_
        refine lv_iload_n hx hb dL_law_381 rfl (lv_at hl 3 rfl) ?_
        refine lv_iconst (v := nI 1) hx hb dL_law_382 (by decide) ?_
        refine kn_iadd hx hb dL_law_383 ?_
        refine kn_sld hx hb hX hbl hbA hS (by omega) hL dL_law_384 ?_
        refine lv_aload_n hx hb dL_law_385 rfl (lv_at hl 0 rfl) ?_
        refine lv_iload_n hx hb dL_law_386 rfl (lv_at hl 3 rfl) ?_
        refine lv_iconst (v := nI 2) hx hb dL_law_387 (by decide) ?_
        refine kn_iadd hx hb dL_law_388 ?_
        refine kn_sld hx hb hX hbl hbA hS (by omega) hL dL_law_389 ?_
        refine ro_Vl (As := [.int (xs ((5 * i) + 1)), .int (xs ((5 * i) + 2))]) (rest := [.long (F_belief g q (xs ((5 * i) + 1)) (xs ((5 * i) + 2)))]) (v := F_belief gm qm (xs ((5 * i) + 1)) (xs ((5 * i) + 2))) ⟨hx, hb, hml, hown, hts⟩ (c_X8_belief l D cy ev am gm qm kb sc hY (xs ((5 * i) + 1)) (xs ((5 * i) + 2))) (kz_cwV 2 hts wm_512 wm_509 wm_510 wm_511 wm_5 rfl rfl (by decide +kernel) ⟨Nat.le_of_ble_eq_true rfl, Nat.le_of_ble_eq_true rfl⟩) hK hE hP.right.left (kz_recv 21 hK hP rfl rfl) rfl hl.1 rfl (Nat.le_of_ble_eq_true rfl) dL_law_390 ⟨(show 43 + 4 * i + 0 ≤ 622252 by omega), (show 271 + 8 * i + 0 ≤ 7235492 by omega)⟩ ?_
        refine kt_lcmp_eq (tgt := 707) hx hb dL_law_393 dL_law_394 (by decide) rfl rfl (fun c393 => ?_) (fun c393 => absurd (congrArg Int64.toInt (a_belief hB.2 (xs ((5 * i) + 1)) (xs ((5 * i) + 2))).symm) c393)
        refine kn_iinc (k := 3) (x := 5 * i) (d := 5) (lv' := [(3, .int (nI (5 * i + 5))), (0, .ref b), (1, .ref (ax 0)), (2, .ref (am 0))]) hx hb dL_law_707 hl rfl (by decide) rfl (fun ls hl => ?_)
        refine lv_goto (tgt := 18) hx hb dL_law_710 (by decide) ?_
        refine W.widen (k := 43 + 4 * (i + 1)) (n := 271 + 8 * (i + 1)) (by omega) (by omega) ?_
        exact ih18 () _ _ _ (by omega) ⟨_, _, _, _, _, _, _, _, _, _, _, hB, hZ, (by omega), (by omega), by omega, hP, hD, hS, lv_sub hl [1, 2, 3, 0] rfl⟩
      · skip
        refine lv_tableIn (tgt := 399) (off := 367) hx hb dL_law_32 (by decide) (by decide) rfl (by decide) ?_
        refine lv_aload_n hx hb dL_law_399 rfl (lv_at hl 1 rfl) ?_
        refine ro_Vi (As := []) (rest := []) (v := F_judged g q) ⟨hx, hb, hml, hown, hts⟩ (c_X7_judged l D cy ev ax g q bt rv pf hB.1) (kz_cwV 0 hts wm_525 wm_522 wm_523 wm_524 wm_2 rfl rfl (by decide +kernel) ⟨Nat.le_of_ble_eq_true rfl, Nat.le_of_ble_eq_true rfl⟩) hK hE hP.left (kz_recv 0 hK hP.left rfl rfl) rfl hl.1 rfl (Nat.le_of_ble_eq_true rfl) dL_law_400 ⟨(show 43 + 4 * i + 0 ≤ 622252 by omega), (show 271 + 8 * i + 0 ≤ 7235492 by omega)⟩ ?_
        refine lv_aload_n hx hb dL_law_403 rfl (lv_at hl 2 rfl) ?_
        refine ro_Vi (As := []) (rest := [.int (F_judged g q)]) (v := F_judged gm qm) ⟨hx, hb, hml, hown, hts⟩ (c_X8_judged l D cy ev am gm qm kb sc hY) (kz_cwV 0 hts wm_529 wm_526 wm_527 wm_528 wm_5 rfl rfl (by decide +kernel) ⟨Nat.le_of_ble_eq_true rfl, Nat.le_of_ble_eq_true rfl⟩) hK hE hP.right.left (kz_recv 21 hK hP rfl rfl) rfl hl.1 rfl (Nat.le_of_ble_eq_true rfl) dL_law_404 ⟨(show 43 + 4 * i + 0 ≤ 622252 by omega), (show 271 + 8 * i + 0 ≤ 7235492 by omega)⟩ ?_
        refine kt_icmp_eq (tgt := 707) hx hb dL_law_407 (by decide) rfl rfl (fun c407 => ?_) (fun c407 => absurd (congrArg Int32.toInt (a_judged hB.2).symm) c407)
        refine kn_iinc (k := 3) (x := 5 * i) (d := 5) (lv' := [(3, .int (nI (5 * i + 5))), (0, .ref b), (1, .ref (ax 0)), (2, .ref (am 0))]) hx hb dL_law_707 hl rfl (by decide) rfl (fun ls hl => ?_)
        refine lv_goto (tgt := 18) hx hb dL_law_710 (by decide) ?_
        refine W.widen (k := 43 + 4 * (i + 1)) (n := 271 + 8 * (i + 1)) (by omega) (by omega) ?_
        exact ih18 () _ _ _ (by omega) ⟨_, _, _, _, _, _, _, _, _, _, _, hB, hZ, (by omega), (by omega), by omega, hP, hD, hS, lv_sub hl [1, 2, 3, 0] rfl⟩
      · skip
        refine lv_tableIn (tgt := 412) (off := 380) hx hb dL_law_32 (by decide) (by decide) rfl (by decide) ?_
        refine lv_aload_n hx hb dL_law_412 rfl (lv_at hl 1 rfl) ?_
        refine lv_aload_n hx hb dL_law_413 rfl (lv_at hl 0 rfl) ?_
        refine lv_iload_n hx hb dL_law_414 rfl (lv_at hl 3 rfl) ?_
        refine lv_iconst (v := nI 1) hx hb dL_law_415 (by decide) ?_
        refine kn_iadd hx hb dL_law_416 ?_
        refine kn_sld hx hb hX hbl hbA hS (by omega) hL dL_law_417 ?_
        refine lv_aload_n hx hb dL_law_418 rfl (lv_at hl 0 rfl) ?_
        refine lv_iload_n hx hb dL_law_419 rfl (lv_at hl 3 rfl) ?_
        refine lv_iconst (v := nI 2) hx hb dL_law_420 (by decide) ?_
        refine kn_iadd hx hb dL_law_421 ?_
        refine kn_sld hx hb hX hbl hbA hS (by omega) hL dL_law_422 ?_
        have hF := lj_free hD hS hA
        refine wr_Vl (As := [.int (xs ((5 * i) + 1)), .int (xs ((5 * i) + 2))]) (rest := []) ⟨hx, hb, hml, hown, hts⟩ (c_X7_right l D cy ev H.size ax g q bt rv pf pa pz hB.1 hZ (xs ((5 * i) + 1)) (xs ((5 * i) + 2))) (kz_cwV 2 hts wm_533 wm_530 wm_531 wm_532 wm_2 rfl rfl (by decide +kernel) ⟨Nat.le_of_ble_eq_true rfl, Nat.le_of_ble_eq_true rfl⟩) hK hE hP.left hP.right.right ((lj_xz hD).weaken (fun _ q9 _ h => hAE q9.1 h)) (Nat.le_trans hsz hS.1) hS hF (kz_recv 0 hK hP.left rfl rfl) rfl hl.1 rfl (Nat.le_of_ble_eq_true rfl) dL_law_423 ⟨(show 43 + 4 * i + 0 ≤ 622252 by omega), (show 271 + 8 * i + 0 ≤ 7235492 by omega)⟩ (fun r u H423 locs hp hP1 hD1 hz1 hk1 hS => ?_)
        obtain ⟨g1, q1, bt1, rv1⟩ := u
        obtain ⟨hr1, e1, e2, e3⟩ := hp
        have e1 : g1 = N_right g (xs ((5 * i) + 1)) (xs ((5 * i) + 2)) := e1
        have e2 : q1 = q := e2
        have e3 : bt1 = bt := e3
        subst hr1
        have hP1 : va_P D vwCl (LX cy ax g1 q1 bt1 rv1 pf) H423 := hP1
        have hD1 : va_D _ (LX cy ax g1 q1 bt1 rv1 pf) := hD1
        rw [e1, e2, e3] at hP1 hD1
        obtain ⟨hP, hD⟩ := lj_join (X1 := LX cy ax (N_right g (xs ((5 * i) + 1)) (xs ((5 * i) + 2))) (q) (bt) rv1 pf) hP hD hk1 hF hP1 hD1
        have hE := hE0.kept hAE hS
        refine lv_aload_n hx hb dL_law_426 rfl (lv_at hl 2 rfl) ?_
        refine lv_aload_n hx hb dL_law_427 rfl (lv_at hl 0 rfl) ?_
        refine lv_iload_n hx hb dL_law_428 rfl (lv_at hl 3 rfl) ?_
        refine lv_iconst (v := nI 1) hx hb dL_law_429 (by decide) ?_
        refine kn_iadd hx hb dL_law_430 ?_
        refine kn_sld hx hb hX hbl hbA hS (by omega) hL dL_law_431 ?_
        refine lv_aload_n hx hb dL_law_432 rfl (lv_at hl 0 rfl) ?_
        refine lv_iload_n hx hb dL_law_433 rfl (lv_at hl 3 rfl) ?_
        refine lv_iconst (v := nI 2) hx hb dL_law_434 (by decide) ?_
        refine kn_iadd hx hb dL_law_435 ?_
        refine kn_sld hx hb hX hbl hbA hS (by omega) hL dL_law_436 ?_
        have hPs := lj_swP hP
        have hDs := lj_sw hD
        have hF := lj_free hDs hS hA
        refine wr_Vl (As := [.int (xs ((5 * i) + 1)), .int (xs ((5 * i) + 2))]) (rest := [.long (F_right g q (xs ((5 * i) + 1)) (xs ((5 * i) + 2)))]) ⟨hx, hb, hml, hown, hts⟩ (c_X8_right l D cy ev H423.size am gm qm kb sc hY (xs ((5 * i) + 1)) (xs ((5 * i) + 2))) (kz_cwV 2 hts wm_560 wm_557 wm_558 wm_559 wm_5 rfl rfl (by decide +kernel) ⟨Nat.le_of_ble_eq_true rfl, Nat.le_of_ble_eq_true rfl⟩) hK hE hPs.left kz_P0 (kz_D0 hDs.left hAE) (Nat.le_trans hsz hS.1) hS hF (kz_recv 0 hK hPs.left rfl rfl) rfl hl.1 rfl (Nat.le_of_ble_eq_true rfl) dL_law_437 ⟨(show 43 + 4 * i + 0 ≤ 622252 by omega), (show 271 + 8 * i + 0 ≤ 7235492 by omega)⟩ (fun r u H437 locs hp hP1 hD1 hz1 hk1 hS => ?_)
        obtain ⟨g2, q2, kb2, sc2⟩ := u
        obtain ⟨hr1, e1, e2, e3⟩ := hp
        have e1 : g2 = N_right gm (xs ((5 * i) + 1)) (xs ((5 * i) + 2)) := e1
        have e2 : q2 = qm := e2
        have e3 : kb2 = kb := e3
        subst hr1
        have hP1 : va_P D vwCl (LM cy am g2 q2 kb2 sc2) H437 := hP1
        have hD1 : va_D _ (LM cy am g2 q2 kb2 sc2) := hD1
        rw [e1, e2, e3] at hP1 hD1
        obtain ⟨hP, hD⟩ := lj_join (X1 := LM cy am (N_right gm (xs ((5 * i) + 1)) (xs ((5 * i) + 2))) (qm) (kb) sc2) hPs hDs hk1 hF hP1 hD1
        have hP := lj_swP hP
        have hD := lj_sw hD
        have hE := hE0.kept hAE hS
        refine kt_lcmp_eq (tgt := 707) hx hb dL_law_440 dL_law_441 (by decide) rfl rfl (fun c440 => ?_) (fun c440 => absurd (congrArg Int64.toInt (a_right hB.2 (xs ((5 * i) + 1)) (xs ((5 * i) + 2))).symm) c440)
        refine kn_iinc (k := 3) (x := 5 * i) (d := 5) (lv' := [(3, .int (nI (5 * i + 5))), (0, .ref b), (1, .ref (ax 0)), (2, .ref (am 0))]) hx hb dL_law_707 hl rfl (by decide) rfl (fun ls hl => ?_)
        refine lv_goto (tgt := 18) hx hb dL_law_710 (by decide) ?_
        refine W.widen (k := 43 + 4 * (i + 1)) (n := 271 + 8 * (i + 1)) (by omega) (by omega) ?_
        have hB1 := s_right hB (xs ((5 * i) + 1)) (xs ((5 * i) + 2))
        have hkp := kp_right (g := g) (q := q) (xs ((5 * i) + 1)) (xs ((5 * i) + 2))
        exact ih18 () _ _ _ (by omega) ⟨_, _, _, _, _, _, _, _, _, _, _, hB1, (hZ.to hkp), (by rw [hkp.2.1]; omega), (by rw [k6_right (xs ((5 * i) + 1)) (xs ((5 * i) + 2))]; omega), by omega, hP, hD, hS, lv_sub hl [1, 2, 3, 0] rfl⟩
      · skip
        refine lv_tableIn (tgt := 446) (off := 414) hx hb dL_law_32 (by decide) (by decide) rfl (by decide) ?_
        refine lv_aload_n hx hb dL_law_446 rfl (lv_at hl 1 rfl) ?_
        refine lv_aload_n hx hb dL_law_447 rfl (lv_at hl 0 rfl) ?_
        refine lv_iload_n hx hb dL_law_448 rfl (lv_at hl 3 rfl) ?_
        refine lv_iconst (v := nI 1) hx hb dL_law_449 (by decide) ?_
        refine kn_iadd hx hb dL_law_450 ?_
        refine kn_sld hx hb hX hbl hbA hS (by omega) hL dL_law_451 ?_
        refine lv_aload_n hx hb dL_law_452 rfl (lv_at hl 0 rfl) ?_
        refine lv_iload_n hx hb dL_law_453 rfl (lv_at hl 3 rfl) ?_
        refine lv_iconst (v := nI 2) hx hb dL_law_454 (by decide) ?_
        refine kn_iadd hx hb dL_law_455 ?_
        refine kn_sld hx hb hX hbl hbA hS (by omega) hL dL_law_456 ?_
        have hF := lj_free hD hS hA
        refine wr_Vl (As := [.int (xs ((5 * i) + 1)), .int (xs ((5 * i) + 2))]) (rest := []) ⟨hx, hb, hml, hown, hts⟩ (c_X7_driest l D cy ev H.size ax g q bt rv pf pa pz hB.1 hZ (xs ((5 * i) + 1)) (xs ((5 * i) + 2))) (kz_cwV 2 hts wm_585 wm_582 wm_583 wm_584 wm_2 rfl rfl (by decide +kernel) ⟨Nat.le_of_ble_eq_true rfl, Nat.le_of_ble_eq_true rfl⟩) hK hE hP.left hP.right.right ((lj_xz hD).weaken (fun _ q9 _ h => hAE q9.1 h)) (Nat.le_trans hsz hS.1) hS hF (kz_recv 0 hK hP.left rfl rfl) rfl hl.1 rfl (Nat.le_of_ble_eq_true rfl) dL_law_457 ⟨(show 43 + 4 * i + 0 ≤ 622252 by omega), (show 271 + 8 * i + 0 ≤ 7235492 by omega)⟩ (fun r u H457 locs hp hP1 hD1 hz1 hk1 hS => ?_)
        have hr1 : r = F_driest g q (xs ((5 * i) + 1)) (xs ((5 * i) + 2)) := hp
        subst hr1
        obtain ⟨hP, hD⟩ := lj_join (X1 := LX cy ax g q bt u pf) hP hD hk1 hF hP1 hD1
        have hE := hE0.kept hAE hS
        refine lv_aload_n hx hb dL_law_460 rfl (lv_at hl 2 rfl) ?_
        refine lv_aload_n hx hb dL_law_461 rfl (lv_at hl 0 rfl) ?_
        refine lv_iload_n hx hb dL_law_462 rfl (lv_at hl 3 rfl) ?_
        refine lv_iconst (v := nI 1) hx hb dL_law_463 (by decide) ?_
        refine kn_iadd hx hb dL_law_464 ?_
        refine kn_sld hx hb hX hbl hbA hS (by omega) hL dL_law_465 ?_
        refine lv_aload_n hx hb dL_law_466 rfl (lv_at hl 0 rfl) ?_
        refine lv_iload_n hx hb dL_law_467 rfl (lv_at hl 3 rfl) ?_
        refine lv_iconst (v := nI 2) hx hb dL_law_468 (by decide) ?_
        refine kn_iadd hx hb dL_law_469 ?_
        refine kn_sld hx hb hX hbl hbA hS (by omega) hL dL_law_470 ?_
        have hPs := lj_swP hP
        have hDs := lj_sw hD
        have hF := lj_free hDs hS hA
        refine wr_Vl (As := [.int (xs ((5 * i) + 1)), .int (xs ((5 * i) + 2))]) (rest := [.long (F_driest g q (xs ((5 * i) + 1)) (xs ((5 * i) + 2)))]) ⟨hx, hb, hml, hown, hts⟩ (c_X8_driest l D cy ev H457.size am gm qm kb sc hY (xs ((5 * i) + 1)) (xs ((5 * i) + 2))) (kz_cwV 2 hts wm_589 wm_586 wm_587 wm_588 wm_5 rfl rfl (by decide +kernel) ⟨Nat.le_of_ble_eq_true rfl, Nat.le_of_ble_eq_true rfl⟩) hK hE hPs.left kz_P0 (kz_D0 hDs.left hAE) (Nat.le_trans hsz hS.1) hS hF (kz_recv 0 hK hPs.left rfl rfl) rfl hl.1 rfl (Nat.le_of_ble_eq_true rfl) dL_law_471 ⟨(show 43 + 4 * i + 0 ≤ 622252 by omega), (show 271 + 8 * i + 0 ≤ 7235492 by omega)⟩ (fun r u H471 locs hp hP1 hD1 hz1 hk1 hS => ?_)
        obtain ⟨g2, q2, kb2, sc2⟩ := u
        obtain ⟨hr1, e1, e2, e3⟩ := hp
        have e1 : g2 = gm := e1
        have e2 : q2 = qm := e2
        have e3 : kb2 = kb := e3
        subst hr1
        have hP1 : va_P D vwCl (LM cy am g2 q2 kb2 sc2) H471 := hP1
        have hD1 : va_D _ (LM cy am g2 q2 kb2 sc2) := hD1
        rw [e1, e2, e3] at hP1 hD1
        obtain ⟨hP, hD⟩ := lj_join (X1 := LM cy am (gm) (qm) (kb) sc2) hPs hDs hk1 hF hP1 hD1
        have hP := lj_swP hP
        have hD := lj_sw hD
        have hE := hE0.kept hAE hS
        refine kt_lcmp_eq (tgt := 707) hx hb dL_law_474 dL_law_475 (by decide) rfl rfl (fun c474 => ?_) (fun c474 => absurd (congrArg Int64.toInt (a_driest hB.2 (xs ((5 * i) + 1)) (xs ((5 * i) + 2))).symm) c474)
        refine kn_iinc (k := 3) (x := 5 * i) (d := 5) (lv' := [(3, .int (nI (5 * i + 5))), (0, .ref b), (1, .ref (ax 0)), (2, .ref (am 0))]) hx hb dL_law_707 hl rfl (by decide) rfl (fun ls hl => ?_)
        refine lv_goto (tgt := 18) hx hb dL_law_710 (by decide) ?_
        refine W.widen (k := 43 + 4 * (i + 1)) (n := 271 + 8 * (i + 1)) (by omega) (by omega) ?_
        exact ih18 () _ _ _ (by omega) ⟨_, _, _, _, _, _, _, _, _, _, _, hB, hZ, (by omega), (by omega), by omega, hP, hD, hS, lv_sub hl [1, 2, 3, 0] rfl⟩
      · skip
        refine lv_tableIn (tgt := 480) (off := 448) hx hb dL_law_32 (by decide) (by decide) rfl (by decide) ?_
        refine lv_aload_n hx hb dL_law_480 rfl (lv_at hl 1 rfl) ?_
        refine lv_aload_n hx hb dL_law_481 rfl (lv_at hl 0 rfl) ?_
        refine lv_iload_n hx hb dL_law_482 rfl (lv_at hl 3 rfl) ?_
        refine lv_iconst (v := nI 1) hx hb dL_law_483 (by decide) ?_
        refine kn_iadd hx hb dL_law_484 ?_
        refine kn_sld hx hb hX hbl hbA hS (by omega) hL dL_law_485 ?_
        refine lv_aload_n hx hb dL_law_486 rfl (lv_at hl 0 rfl) ?_
        refine lv_iload_n hx hb dL_law_487 rfl (lv_at hl 3 rfl) ?_
        refine lv_iconst (v := nI 2) hx hb dL_law_488 (by decide) ?_
        refine kn_iadd hx hb dL_law_489 ?_
        refine kn_sld hx hb hX hbl hbA hS (by omega) hL dL_law_490 ?_
        refine kt_if_eq (tgt := 498) hx hb dL_law_491 (by decide) rfl (fun c491 => ?_) (fun c491 => ?_)
        · skip
          refine lv_iconst (v := nI 0) hx hb dL_law_498 (by decide) ?_
          refine lv_aload_n hx hb dL_law_499 rfl (lv_at hl 0 rfl) ?_
          refine lv_iload_n hx hb dL_law_500 rfl (lv_at hl 3 rfl) ?_
          refine lv_iconst (v := nI 3) hx hb dL_law_501 (by decide) ?_
          refine kn_iadd hx hb dL_law_502 ?_
          refine kn_sld hx hb hX hbl hbA hS (by omega) hL dL_law_503 ?_
          refine kt_if_eq (tgt := 511) hx hb dL_law_504 (by decide) rfl (fun c504 => ?_) (fun c504 => ?_)
          · skip
            refine lv_iconst (v := nI 0) hx hb dL_law_511 (by decide) ?_
            refine kn_as (st' := [.int (bI false), .int (bI false), .int (xs ((5 * i) + 1)), .ref (ax 0)]) rfl ?_
            have hF := lj_free hD hS hA
            refine wr_Vi (As := [.int (xs ((5 * i) + 1)), .int (bI false), .int (bI false)]) (rest := []) ⟨hx, hb, hml, hown, hts⟩ (c_X7_hear l D cy ev H.size ax g q bt rv pf pa pz hB.1 hZ (xs ((5 * i) + 1)) false false) (kz_cwV 3 hts wm_601 wm_598 wm_599 wm_600 wm_2 rfl rfl (by decide +kernel) ⟨Nat.le_of_ble_eq_true rfl, Nat.le_of_ble_eq_true rfl⟩) hK hE hP.left hP.right.right ((lj_xz hD).weaken (fun _ q9 _ h => hAE q9.1 h)) (Nat.le_trans hsz hS.1) hS hF (kz_recv 0 hK hP.left rfl rfl) rfl hl.1 rfl (Nat.le_of_ble_eq_true rfl) dL_law_512 ⟨(show 43 + 4 * i + 0 ≤ 622252 by omega), (show 271 + 8 * i + 0 ≤ 7235492 by omega)⟩ (fun r u H512 locs hp hP1 hD1 hz1 hk1 hS => ?_)
            obtain ⟨g1, q1, bt1, rv1⟩ := u
            obtain ⟨hr1, e1, e2, e3⟩ := hp
            have e1 : g1 = N_hearg g (xs ((5 * i) + 1)) := e1
            have e2 : q1 = q := e2
            have e3 : bt1 = N_hearb g q bt (xs ((5 * i) + 1)) false false := e3
            subst hr1
            have hP1 : va_P D vwCl (LX cy ax g1 q1 bt1 rv1 pf) H512 := hP1
            have hD1 : va_D _ (LX cy ax g1 q1 bt1 rv1 pf) := hD1
            rw [e1, e2, e3] at hP1 hD1
            obtain ⟨hP, hD⟩ := lj_join (X1 := LX cy ax (N_hearg g (xs ((5 * i) + 1))) (q) (N_hearb g q bt (xs ((5 * i) + 1)) false false) rv1 pf) hP hD hk1 hF hP1 hD1
            have hE := hE0.kept hAE hS
            refine lv_aload_n hx hb dL_law_515 rfl (lv_at hl 2 rfl) ?_
            refine lv_aload_n hx hb dL_law_516 rfl (lv_at hl 0 rfl) ?_
            refine lv_iload_n hx hb dL_law_517 rfl (lv_at hl 3 rfl) ?_
            refine lv_iconst (v := nI 1) hx hb dL_law_518 (by decide) ?_
            refine kn_iadd hx hb dL_law_519 ?_
            refine kn_sld hx hb hX hbl hbA hS (by omega) hL dL_law_520 ?_
            refine lv_aload_n hx hb dL_law_521 rfl (lv_at hl 0 rfl) ?_
            refine lv_iload_n hx hb dL_law_522 rfl (lv_at hl 3 rfl) ?_
            refine lv_iconst (v := nI 2) hx hb dL_law_523 (by decide) ?_
            refine kn_iadd hx hb dL_law_524 ?_
            refine kn_sld hx hb hX hbl hbA hS (by omega) hL dL_law_525 ?_
            refine kt_if_eq (tgt := 533) hx hb dL_law_526 (by decide) rfl (fun c526 => ?_) (fun c526 => absurd c526 (by omega))
            refine lv_iconst (v := nI 0) hx hb dL_law_533 (by decide) ?_
            refine lv_aload_n hx hb dL_law_534 rfl (lv_at hl 0 rfl) ?_
            refine lv_iload_n hx hb dL_law_535 rfl (lv_at hl 3 rfl) ?_
            refine lv_iconst (v := nI 3) hx hb dL_law_536 (by decide) ?_
            refine kn_iadd hx hb dL_law_537 ?_
            refine kn_sld hx hb hX hbl hbA hS (by omega) hL dL_law_538 ?_
            refine kt_if_eq (tgt := 546) hx hb dL_law_539 (by decide) rfl (fun c539 => ?_) (fun c539 => absurd c539 (by omega))
            refine lv_iconst (v := nI 0) hx hb dL_law_546 (by decide) ?_
            refine kn_as (st' := [.int (bI false), .int (bI false), .int (xs ((5 * i) + 1)), .ref (am 0), .int (F_hear g (xs ((5 * i) + 1)))]) rfl ?_
            have hPs := lj_swP hP
            have hDs := lj_sw hD
            have hF := lj_free hDs hS hA
            refine wr_Vi (As := [.int (xs ((5 * i) + 1)), .int (bI false), .int (bI false)]) (rest := [.int (F_hear g (xs ((5 * i) + 1)))]) ⟨hx, hb, hml, hown, hts⟩ (c_X8_hear l D cy ev H512.size am gm qm kb sc hY (xs ((5 * i) + 1)) false false) (kz_cwV 3 hts wm_616 wm_613 wm_614 wm_615 wm_5 rfl rfl (by decide +kernel) ⟨Nat.le_of_ble_eq_true rfl, Nat.le_of_ble_eq_true rfl⟩) hK hE hPs.left kz_P0 (kz_D0 hDs.left hAE) (Nat.le_trans hsz hS.1) hS hF (kz_recv 0 hK hPs.left rfl rfl) rfl hl.1 rfl (Nat.le_of_ble_eq_true rfl) dL_law_547 ⟨(show 43 + 4 * i + 0 ≤ 622252 by omega), (show 271 + 8 * i + 0 ≤ 7235492 by omega)⟩ (fun r u H547 locs hp hP1 hD1 hz1 hk1 hS => ?_)
            obtain ⟨g2, q2, kb2, sc2⟩ := u
            obtain ⟨hr1, e1, e2, e3⟩ := hp
            have e1 : g2 = N_hearg gm (xs ((5 * i) + 1)) := e1
            have e2 : q2 = mhq gm qm (xs ((5 * i) + 1)) false false := e2
            have e3 : kb2 = kb := e3
            subst hr1
            have hP1 : va_P D vwCl (LM cy am g2 q2 kb2 sc2) H547 := hP1
            have hD1 : va_D _ (LM cy am g2 q2 kb2 sc2) := hD1
            rw [e1, e2, e3] at hP1 hD1
            obtain ⟨hP, hD⟩ := lj_join (X1 := LM cy am (N_hearg gm (xs ((5 * i) + 1))) (mhq gm qm (xs ((5 * i) + 1)) false false) (kb) sc2) hPs hDs hk1 hF hP1 hD1
            have hP := lj_swP hP
            have hD := lj_sw hD
            have hE := hE0.kept hAE hS
            refine kt_icmp_eq (tgt := 707) hx hb dL_law_550 (by decide) rfl rfl (fun c550 => ?_) (fun c550 => absurd (congrArg Int32.toInt (a_hear hB.2 (xs ((5 * i) + 1))).symm) c550)
            refine kn_iinc (k := 3) (x := 5 * i) (d := 5) (lv' := [(3, .int (nI (5 * i + 5))), (0, .ref b), (1, .ref (ax 0)), (2, .ref (am 0))]) hx hb dL_law_707 hl rfl (by decide) rfl (fun ls hl => ?_)
            refine lv_goto (tgt := 18) hx hb dL_law_710 (by decide) ?_
            refine W.widen (k := 43 + 4 * (i + 1)) (n := 271 + 8 * (i + 1)) (by omega) (by omega) ?_
            have hB1 := s_hear hB (xs ((5 * i) + 1)) false false
            have hkp := kp_hear (g := g) (q := q) (xs ((5 * i) + 1))
            exact ih18 () _ _ _ (by omega) ⟨_, _, _, _, _, _, _, _, _, _, _, hB1, (hZ.to hkp), (by rw [hkp.2.1]; omega), (by rw [k6_hear (xs ((5 * i) + 1))]; omega), by omega, hP, hD, hS, lv_sub hl [1, 2, 3, 0] rfl⟩
          · skip
            refine lv_iconst (v := nI 1) hx hb dL_law_507 (by decide) ?_
            refine lv_goto (tgt := 512) hx hb dL_law_508 (by decide) ?_
            refine kn_as (st' := [.int (bI true), .int (bI false), .int (xs ((5 * i) + 1)), .ref (ax 0)]) rfl ?_
            have hF := lj_free hD hS hA
            refine wr_Vi (As := [.int (xs ((5 * i) + 1)), .int (bI false), .int (bI true)]) (rest := []) ⟨hx, hb, hml, hown, hts⟩ (c_X7_hear l D cy ev H.size ax g q bt rv pf pa pz hB.1 hZ (xs ((5 * i) + 1)) false true) (kz_cwV 3 hts wm_601 wm_598 wm_599 wm_600 wm_2 rfl rfl (by decide +kernel) ⟨Nat.le_of_ble_eq_true rfl, Nat.le_of_ble_eq_true rfl⟩) hK hE hP.left hP.right.right ((lj_xz hD).weaken (fun _ q9 _ h => hAE q9.1 h)) (Nat.le_trans hsz hS.1) hS hF (kz_recv 0 hK hP.left rfl rfl) rfl hl.1 rfl (Nat.le_of_ble_eq_true rfl) dL_law_512 ⟨(show 43 + 4 * i + 0 ≤ 622252 by omega), (show 271 + 8 * i + 0 ≤ 7235492 by omega)⟩ (fun r u H512 locs hp hP1 hD1 hz1 hk1 hS => ?_)
            obtain ⟨g1, q1, bt1, rv1⟩ := u
            obtain ⟨hr1, e1, e2, e3⟩ := hp
            have e1 : g1 = N_hearg g (xs ((5 * i) + 1)) := e1
            have e2 : q1 = q := e2
            have e3 : bt1 = N_hearb g q bt (xs ((5 * i) + 1)) false true := e3
            subst hr1
            have hP1 : va_P D vwCl (LX cy ax g1 q1 bt1 rv1 pf) H512 := hP1
            have hD1 : va_D _ (LX cy ax g1 q1 bt1 rv1 pf) := hD1
            rw [e1, e2, e3] at hP1 hD1
            obtain ⟨hP, hD⟩ := lj_join (X1 := LX cy ax (N_hearg g (xs ((5 * i) + 1))) (q) (N_hearb g q bt (xs ((5 * i) + 1)) false true) rv1 pf) hP hD hk1 hF hP1 hD1
            have hE := hE0.kept hAE hS
            refine lv_aload_n hx hb dL_law_515 rfl (lv_at hl 2 rfl) ?_
            refine lv_aload_n hx hb dL_law_516 rfl (lv_at hl 0 rfl) ?_
            refine lv_iload_n hx hb dL_law_517 rfl (lv_at hl 3 rfl) ?_
            refine lv_iconst (v := nI 1) hx hb dL_law_518 (by decide) ?_
            refine kn_iadd hx hb dL_law_519 ?_
            refine kn_sld hx hb hX hbl hbA hS (by omega) hL dL_law_520 ?_
            refine lv_aload_n hx hb dL_law_521 rfl (lv_at hl 0 rfl) ?_
            refine lv_iload_n hx hb dL_law_522 rfl (lv_at hl 3 rfl) ?_
            refine lv_iconst (v := nI 2) hx hb dL_law_523 (by decide) ?_
            refine kn_iadd hx hb dL_law_524 ?_
            refine kn_sld hx hb hX hbl hbA hS (by omega) hL dL_law_525 ?_
            refine kt_if_eq (tgt := 533) hx hb dL_law_526 (by decide) rfl (fun c526 => ?_) (fun c526 => absurd c526 (by omega))
            refine lv_iconst (v := nI 0) hx hb dL_law_533 (by decide) ?_
            refine lv_aload_n hx hb dL_law_534 rfl (lv_at hl 0 rfl) ?_
            refine lv_iload_n hx hb dL_law_535 rfl (lv_at hl 3 rfl) ?_
            refine lv_iconst (v := nI 3) hx hb dL_law_536 (by decide) ?_
            refine kn_iadd hx hb dL_law_537 ?_
            refine kn_sld hx hb hX hbl hbA hS (by omega) hL dL_law_538 ?_
            refine kt_if_eq (tgt := 546) hx hb dL_law_539 (by decide) rfl (fun c539 => absurd c539 (by omega)) (fun c539 => ?_)
            refine lv_iconst (v := nI 1) hx hb dL_law_542 (by decide) ?_
            refine lv_goto (tgt := 547) hx hb dL_law_543 (by decide) ?_
            refine kn_as (st' := [.int (bI true), .int (bI false), .int (xs ((5 * i) + 1)), .ref (am 0), .int (F_hear g (xs ((5 * i) + 1)))]) rfl ?_
            have hPs := lj_swP hP
            have hDs := lj_sw hD
            have hF := lj_free hDs hS hA
            refine wr_Vi (As := [.int (xs ((5 * i) + 1)), .int (bI false), .int (bI true)]) (rest := [.int (F_hear g (xs ((5 * i) + 1)))]) ⟨hx, hb, hml, hown, hts⟩ (c_X8_hear l D cy ev H512.size am gm qm kb sc hY (xs ((5 * i) + 1)) false true) (kz_cwV 3 hts wm_616 wm_613 wm_614 wm_615 wm_5 rfl rfl (by decide +kernel) ⟨Nat.le_of_ble_eq_true rfl, Nat.le_of_ble_eq_true rfl⟩) hK hE hPs.left kz_P0 (kz_D0 hDs.left hAE) (Nat.le_trans hsz hS.1) hS hF (kz_recv 0 hK hPs.left rfl rfl) rfl hl.1 rfl (Nat.le_of_ble_eq_true rfl) dL_law_547 ⟨(show 43 + 4 * i + 0 ≤ 622252 by omega), (show 271 + 8 * i + 0 ≤ 7235492 by omega)⟩ (fun r u H547 locs hp hP1 hD1 hz1 hk1 hS => ?_)
            obtain ⟨g2, q2, kb2, sc2⟩ := u
            obtain ⟨hr1, e1, e2, e3⟩ := hp
            have e1 : g2 = N_hearg gm (xs ((5 * i) + 1)) := e1
            have e2 : q2 = mhq gm qm (xs ((5 * i) + 1)) false true := e2
            have e3 : kb2 = kb := e3
            subst hr1
            have hP1 : va_P D vwCl (LM cy am g2 q2 kb2 sc2) H547 := hP1
            have hD1 : va_D _ (LM cy am g2 q2 kb2 sc2) := hD1
            rw [e1, e2, e3] at hP1 hD1
            obtain ⟨hP, hD⟩ := lj_join (X1 := LM cy am (N_hearg gm (xs ((5 * i) + 1))) (mhq gm qm (xs ((5 * i) + 1)) false true) (kb) sc2) hPs hDs hk1 hF hP1 hD1
            have hP := lj_swP hP
            have hD := lj_sw hD
            have hE := hE0.kept hAE hS
            refine kt_icmp_eq (tgt := 707) hx hb dL_law_550 (by decide) rfl rfl (fun c550 => ?_) (fun c550 => absurd (congrArg Int32.toInt (a_hear hB.2 (xs ((5 * i) + 1))).symm) c550)
            refine kn_iinc (k := 3) (x := 5 * i) (d := 5) (lv' := [(3, .int (nI (5 * i + 5))), (0, .ref b), (1, .ref (ax 0)), (2, .ref (am 0))]) hx hb dL_law_707 hl rfl (by decide) rfl (fun ls hl => ?_)
            refine lv_goto (tgt := 18) hx hb dL_law_710 (by decide) ?_
            refine W.widen (k := 43 + 4 * (i + 1)) (n := 271 + 8 * (i + 1)) (by omega) (by omega) ?_
            have hB1 := s_hear hB (xs ((5 * i) + 1)) false true
            have hkp := kp_hear (g := g) (q := q) (xs ((5 * i) + 1))
            exact ih18 () _ _ _ (by omega) ⟨_, _, _, _, _, _, _, _, _, _, _, hB1, (hZ.to hkp), (by rw [hkp.2.1]; omega), (by rw [k6_hear (xs ((5 * i) + 1))]; omega), by omega, hP, hD, hS, lv_sub hl [1, 2, 3, 0] rfl⟩
        · skip
          refine lv_iconst (v := nI 1) hx hb dL_law_494 (by decide) ?_
          refine lv_goto (tgt := 499) hx hb dL_law_495 (by decide) ?_
          refine lv_aload_n hx hb dL_law_499 rfl (lv_at hl 0 rfl) ?_
          refine lv_iload_n hx hb dL_law_500 rfl (lv_at hl 3 rfl) ?_
          refine lv_iconst (v := nI 3) hx hb dL_law_501 (by decide) ?_
          refine kn_iadd hx hb dL_law_502 ?_
          refine kn_sld hx hb hX hbl hbA hS (by omega) hL dL_law_503 ?_
          refine kt_if_eq (tgt := 511) hx hb dL_law_504 (by decide) rfl (fun c504 => ?_) (fun c504 => ?_)
          · skip
            refine lv_iconst (v := nI 0) hx hb dL_law_511 (by decide) ?_
            refine kn_as (st' := [.int (bI false), .int (bI true), .int (xs ((5 * i) + 1)), .ref (ax 0)]) rfl ?_
            have hF := lj_free hD hS hA
            refine wr_Vi (As := [.int (xs ((5 * i) + 1)), .int (bI true), .int (bI false)]) (rest := []) ⟨hx, hb, hml, hown, hts⟩ (c_X7_hear l D cy ev H.size ax g q bt rv pf pa pz hB.1 hZ (xs ((5 * i) + 1)) true false) (kz_cwV 3 hts wm_601 wm_598 wm_599 wm_600 wm_2 rfl rfl (by decide +kernel) ⟨Nat.le_of_ble_eq_true rfl, Nat.le_of_ble_eq_true rfl⟩) hK hE hP.left hP.right.right ((lj_xz hD).weaken (fun _ q9 _ h => hAE q9.1 h)) (Nat.le_trans hsz hS.1) hS hF (kz_recv 0 hK hP.left rfl rfl) rfl hl.1 rfl (Nat.le_of_ble_eq_true rfl) dL_law_512 ⟨(show 43 + 4 * i + 0 ≤ 622252 by omega), (show 271 + 8 * i + 0 ≤ 7235492 by omega)⟩ (fun r u H512 locs hp hP1 hD1 hz1 hk1 hS => ?_)
            obtain ⟨g1, q1, bt1, rv1⟩ := u
            obtain ⟨hr1, e1, e2, e3⟩ := hp
            have e1 : g1 = N_hearg g (xs ((5 * i) + 1)) := e1
            have e2 : q1 = q := e2
            have e3 : bt1 = N_hearb g q bt (xs ((5 * i) + 1)) true false := e3
            subst hr1
            have hP1 : va_P D vwCl (LX cy ax g1 q1 bt1 rv1 pf) H512 := hP1
            have hD1 : va_D _ (LX cy ax g1 q1 bt1 rv1 pf) := hD1
            rw [e1, e2, e3] at hP1 hD1
            obtain ⟨hP, hD⟩ := lj_join (X1 := LX cy ax (N_hearg g (xs ((5 * i) + 1))) (q) (N_hearb g q bt (xs ((5 * i) + 1)) true false) rv1 pf) hP hD hk1 hF hP1 hD1
            have hE := hE0.kept hAE hS
            refine lv_aload_n hx hb dL_law_515 rfl (lv_at hl 2 rfl) ?_
            refine lv_aload_n hx hb dL_law_516 rfl (lv_at hl 0 rfl) ?_
            refine lv_iload_n hx hb dL_law_517 rfl (lv_at hl 3 rfl) ?_
            refine lv_iconst (v := nI 1) hx hb dL_law_518 (by decide) ?_
            refine kn_iadd hx hb dL_law_519 ?_
            refine kn_sld hx hb hX hbl hbA hS (by omega) hL dL_law_520 ?_
            refine lv_aload_n hx hb dL_law_521 rfl (lv_at hl 0 rfl) ?_
            refine lv_iload_n hx hb dL_law_522 rfl (lv_at hl 3 rfl) ?_
            refine lv_iconst (v := nI 2) hx hb dL_law_523 (by decide) ?_
            refine kn_iadd hx hb dL_law_524 ?_
            refine kn_sld hx hb hX hbl hbA hS (by omega) hL dL_law_525 ?_
            refine kt_if_eq (tgt := 533) hx hb dL_law_526 (by decide) rfl (fun c526 => absurd c526 (by omega)) (fun c526 => ?_)
            refine lv_iconst (v := nI 1) hx hb dL_law_529 (by decide) ?_
            refine lv_goto (tgt := 534) hx hb dL_law_530 (by decide) ?_
            refine lv_aload_n hx hb dL_law_534 rfl (lv_at hl 0 rfl) ?_
            refine lv_iload_n hx hb dL_law_535 rfl (lv_at hl 3 rfl) ?_
            refine lv_iconst (v := nI 3) hx hb dL_law_536 (by decide) ?_
            refine kn_iadd hx hb dL_law_537 ?_
            refine kn_sld hx hb hX hbl hbA hS (by omega) hL dL_law_538 ?_
            refine kt_if_eq (tgt := 546) hx hb dL_law_539 (by decide) rfl (fun c539 => ?_) (fun c539 => absurd c539 (by omega))
            refine lv_iconst (v := nI 0) hx hb dL_law_546 (by decide) ?_
            refine kn_as (st' := [.int (bI false), .int (bI true), .int (xs ((5 * i) + 1)), .ref (am 0), .int (F_hear g (xs ((5 * i) + 1)))]) rfl ?_
            have hPs := lj_swP hP
            have hDs := lj_sw hD
            have hF := lj_free hDs hS hA
            refine wr_Vi (As := [.int (xs ((5 * i) + 1)), .int (bI true), .int (bI false)]) (rest := [.int (F_hear g (xs ((5 * i) + 1)))]) ⟨hx, hb, hml, hown, hts⟩ (c_X8_hear l D cy ev H512.size am gm qm kb sc hY (xs ((5 * i) + 1)) true false) (kz_cwV 3 hts wm_616 wm_613 wm_614 wm_615 wm_5 rfl rfl (by decide +kernel) ⟨Nat.le_of_ble_eq_true rfl, Nat.le_of_ble_eq_true rfl⟩) hK hE hPs.left kz_P0 (kz_D0 hDs.left hAE) (Nat.le_trans hsz hS.1) hS hF (kz_recv 0 hK hPs.left rfl rfl) rfl hl.1 rfl (Nat.le_of_ble_eq_true rfl) dL_law_547 ⟨(show 43 + 4 * i + 0 ≤ 622252 by omega), (show 271 + 8 * i + 0 ≤ 7235492 by omega)⟩ (fun r u H547 locs hp hP1 hD1 hz1 hk1 hS => ?_)
            obtain ⟨g2, q2, kb2, sc2⟩ := u
            obtain ⟨hr1, e1, e2, e3⟩ := hp
            have e1 : g2 = N_hearg gm (xs ((5 * i) + 1)) := e1
            have e2 : q2 = mhq gm qm (xs ((5 * i) + 1)) true false := e2
            have e3 : kb2 = kb := e3
            subst hr1
            have hP1 : va_P D vwCl (LM cy am g2 q2 kb2 sc2) H547 := hP1
            have hD1 : va_D _ (LM cy am g2 q2 kb2 sc2) := hD1
            rw [e1, e2, e3] at hP1 hD1
            obtain ⟨hP, hD⟩ := lj_join (X1 := LM cy am (N_hearg gm (xs ((5 * i) + 1))) (mhq gm qm (xs ((5 * i) + 1)) true false) (kb) sc2) hPs hDs hk1 hF hP1 hD1
            have hP := lj_swP hP
            have hD := lj_sw hD
            have hE := hE0.kept hAE hS
            refine kt_icmp_eq (tgt := 707) hx hb dL_law_550 (by decide) rfl rfl (fun c550 => ?_) (fun c550 => absurd (congrArg Int32.toInt (a_hear hB.2 (xs ((5 * i) + 1))).symm) c550)
            refine kn_iinc (k := 3) (x := 5 * i) (d := 5) (lv' := [(3, .int (nI (5 * i + 5))), (0, .ref b), (1, .ref (ax 0)), (2, .ref (am 0))]) hx hb dL_law_707 hl rfl (by decide) rfl (fun ls hl => ?_)
            refine lv_goto (tgt := 18) hx hb dL_law_710 (by decide) ?_
            refine W.widen (k := 43 + 4 * (i + 1)) (n := 271 + 8 * (i + 1)) (by omega) (by omega) ?_
            have hB1 := s_hear hB (xs ((5 * i) + 1)) true false
            have hkp := kp_hear (g := g) (q := q) (xs ((5 * i) + 1))
            exact ih18 () _ _ _ (by omega) ⟨_, _, _, _, _, _, _, _, _, _, _, hB1, (hZ.to hkp), (by rw [hkp.2.1]; omega), (by rw [k6_hear (xs ((5 * i) + 1))]; omega), by omega, hP, hD, hS, lv_sub hl [1, 2, 3, 0] rfl⟩
          · skip
            refine lv_iconst (v := nI 1) hx hb dL_law_507 (by decide) ?_
            refine lv_goto (tgt := 512) hx hb dL_law_508 (by decide) ?_
            refine kn_as (st' := [.int (bI true), .int (bI true), .int (xs ((5 * i) + 1)), .ref (ax 0)]) rfl ?_
            have hF := lj_free hD hS hA
            refine wr_Vi (As := [.int (xs ((5 * i) + 1)), .int (bI true), .int (bI true)]) (rest := []) ⟨hx, hb, hml, hown, hts⟩ (c_X7_hear l D cy ev H.size ax g q bt rv pf pa pz hB.1 hZ (xs ((5 * i) + 1)) true true) (kz_cwV 3 hts wm_601 wm_598 wm_599 wm_600 wm_2 rfl rfl (by decide +kernel) ⟨Nat.le_of_ble_eq_true rfl, Nat.le_of_ble_eq_true rfl⟩) hK hE hP.left hP.right.right ((lj_xz hD).weaken (fun _ q9 _ h => hAE q9.1 h)) (Nat.le_trans hsz hS.1) hS hF (kz_recv 0 hK hP.left rfl rfl) rfl hl.1 rfl (Nat.le_of_ble_eq_true rfl) dL_law_512 ⟨(show 43 + 4 * i + 0 ≤ 622252 by omega), (show 271 + 8 * i + 0 ≤ 7235492 by omega)⟩ (fun r u H512 locs hp hP1 hD1 hz1 hk1 hS => ?_)
            obtain ⟨g1, q1, bt1, rv1⟩ := u
            obtain ⟨hr1, e1, e2, e3⟩ := hp
            have e1 : g1 = N_hearg g (xs ((5 * i) + 1)) := e1
            have e2 : q1 = q := e2
            have e3 : bt1 = N_hearb g q bt (xs ((5 * i) + 1)) true true := e3
            subst hr1
            have hP1 : va_P D vwCl (LX cy ax g1 q1 bt1 rv1 pf) H512 := hP1
            have hD1 : va_D _ (LX cy ax g1 q1 bt1 rv1 pf) := hD1
            rw [e1, e2, e3] at hP1 hD1
            obtain ⟨hP, hD⟩ := lj_join (X1 := LX cy ax (N_hearg g (xs ((5 * i) + 1))) (q) (N_hearb g q bt (xs ((5 * i) + 1)) true true) rv1 pf) hP hD hk1 hF hP1 hD1
            have hE := hE0.kept hAE hS
            refine lv_aload_n hx hb dL_law_515 rfl (lv_at hl 2 rfl) ?_
            refine lv_aload_n hx hb dL_law_516 rfl (lv_at hl 0 rfl) ?_
            refine lv_iload_n hx hb dL_law_517 rfl (lv_at hl 3 rfl) ?_
            refine lv_iconst (v := nI 1) hx hb dL_law_518 (by decide) ?_
            refine kn_iadd hx hb dL_law_519 ?_
            refine kn_sld hx hb hX hbl hbA hS (by omega) hL dL_law_520 ?_
            refine lv_aload_n hx hb dL_law_521 rfl (lv_at hl 0 rfl) ?_
            refine lv_iload_n hx hb dL_law_522 rfl (lv_at hl 3 rfl) ?_
            refine lv_iconst (v := nI 2) hx hb dL_law_523 (by decide) ?_
            refine kn_iadd hx hb dL_law_524 ?_
            refine kn_sld hx hb hX hbl hbA hS (by omega) hL dL_law_525 ?_
            refine kt_if_eq (tgt := 533) hx hb dL_law_526 (by decide) rfl (fun c526 => absurd c526 (by omega)) (fun c526 => ?_)
            refine lv_iconst (v := nI 1) hx hb dL_law_529 (by decide) ?_
            refine lv_goto (tgt := 534) hx hb dL_law_530 (by decide) ?_
            refine lv_aload_n hx hb dL_law_534 rfl (lv_at hl 0 rfl) ?_
            refine lv_iload_n hx hb dL_law_535 rfl (lv_at hl 3 rfl) ?_
            refine lv_iconst (v := nI 3) hx hb dL_law_536 (by decide) ?_
            refine kn_iadd hx hb dL_law_537 ?_
            refine kn_sld hx hb hX hbl hbA hS (by omega) hL dL_law_538 ?_
            refine kt_if_eq (tgt := 546) hx hb dL_law_539 (by decide) rfl (fun c539 => absurd c539 (by omega)) (fun c539 => ?_)
            refine lv_iconst (v := nI 1) hx hb dL_law_542 (by decide) ?_
            refine lv_goto (tgt := 547) hx hb dL_law_543 (by decide) ?_
            refine kn_as (st' := [.int (bI true), .int (bI true), .int (xs ((5 * i) + 1)), .ref (am 0), .int (F_hear g (xs ((5 * i) + 1)))]) rfl ?_
            have hPs := lj_swP hP
            have hDs := lj_sw hD
            have hF := lj_free hDs hS hA
            refine wr_Vi (As := [.int (xs ((5 * i) + 1)), .int (bI true), .int (bI true)]) (rest := [.int (F_hear g (xs ((5 * i) + 1)))]) ⟨hx, hb, hml, hown, hts⟩ (c_X8_hear l D cy ev H512.size am gm qm kb sc hY (xs ((5 * i) + 1)) true true) (kz_cwV 3 hts wm_616 wm_613 wm_614 wm_615 wm_5 rfl rfl (by decide +kernel) ⟨Nat.le_of_ble_eq_true rfl, Nat.le_of_ble_eq_true rfl⟩) hK hE hPs.left kz_P0 (kz_D0 hDs.left hAE) (Nat.le_trans hsz hS.1) hS hF (kz_recv 0 hK hPs.left rfl rfl) rfl hl.1 rfl (Nat.le_of_ble_eq_true rfl) dL_law_547 ⟨(show 43 + 4 * i + 0 ≤ 622252 by omega), (show 271 + 8 * i + 0 ≤ 7235492 by omega)⟩ (fun r u H547 locs hp hP1 hD1 hz1 hk1 hS => ?_)
            obtain ⟨g2, q2, kb2, sc2⟩ := u
            obtain ⟨hr1, e1, e2, e3⟩ := hp
            have e1 : g2 = N_hearg gm (xs ((5 * i) + 1)) := e1
            have e2 : q2 = mhq gm qm (xs ((5 * i) + 1)) true true := e2
            have e3 : kb2 = kb := e3
            subst hr1
            have hP1 : va_P D vwCl (LM cy am g2 q2 kb2 sc2) H547 := hP1
            have hD1 : va_D _ (LM cy am g2 q2 kb2 sc2) := hD1
            rw [e1, e2, e3] at hP1 hD1
            obtain ⟨hP, hD⟩ := lj_join (X1 := LM cy am (N_hearg gm (xs ((5 * i) + 1))) (mhq gm qm (xs ((5 * i) + 1)) true true) (kb) sc2) hPs hDs hk1 hF hP1 hD1
            have hP := lj_swP hP
            have hD := lj_sw hD
            have hE := hE0.kept hAE hS
            refine kt_icmp_eq (tgt := 707) hx hb dL_law_550 (by decide) rfl rfl (fun c550 => ?_) (fun c550 => absurd (congrArg Int32.toInt (a_hear hB.2 (xs ((5 * i) + 1))).symm) c550)
            refine kn_iinc (k := 3) (x := 5 * i) (d := 5) (lv' := [(3, .int (nI (5 * i + 5))), (0, .ref b), (1, .ref (ax 0)), (2, .ref (am 0))]) hx hb dL_law_707 hl rfl (by decide) rfl (fun ls hl => ?_)
            refine lv_goto (tgt := 18) hx hb dL_law_710 (by decide) ?_
            refine W.widen (k := 43 + 4 * (i + 1)) (n := 271 + 8 * (i + 1)) (by omega) (by omega) ?_
            have hB1 := s_hear hB (xs ((5 * i) + 1)) true true
            have hkp := kp_hear (g := g) (q := q) (xs ((5 * i) + 1))
            exact ih18 () _ _ _ (by omega) ⟨_, _, _, _, _, _, _, _, _, _, _, hB1, (hZ.to hkp), (by rw [hkp.2.1]; omega), (by rw [k6_hear (xs ((5 * i) + 1))]; omega), by omega, hP, hD, hS, lv_sub hl [1, 2, 3, 0] rfl⟩
      · skip
        refine lv_tableIn (tgt := 555) (off := 523) hx hb dL_law_32 (by decide) (by decide) rfl (by decide) ?_
        refine lv_aload_n hx hb dL_law_555 rfl (lv_at hl 1 rfl) ?_
        have hF := lj_free hD hS hA
        refine wr_Vi (As := []) (rest := []) ⟨hx, hb, hml, hown, hts⟩ (c_X7_forget l D cy ev H.size ax g q bt rv pf) (kz_cwV 0 hts wm_620 wm_617 wm_618 wm_619 wm_2 rfl rfl (by decide +kernel) ⟨Nat.le_of_ble_eq_true rfl, Nat.le_of_ble_eq_true rfl⟩) hK hE hP.left kz_P0 (kz_D0 hD.left hAE) (Nat.le_trans hsz hS.1) hS hF (kz_recv 0 hK hP.left rfl rfl) rfl hl.1 rfl (Nat.le_of_ble_eq_true rfl) dL_law_556 ⟨(show 43 + 4 * i + 0 ≤ 622252 by omega), (show 271 + 8 * i + 0 ≤ 7235492 by omega)⟩ (fun r u H556 locs hp hP1 hD1 hz1 hk1 hS => ?_)
        obtain ⟨g1, q1, bt1, rv1⟩ := u
        obtain ⟨hr1, e1, e2, e3⟩ := hp
        have e1 : g1 = fg g 2 0 := e1
        have e2 : q1 = q := e2
        have e3 : bt1 = fb bt 0 (fr (fun _ => nI 1023) (bt 0) 4) := e3
        subst hr1
        have hP1 : va_P D vwCl (LX cy ax g1 q1 bt1 rv1 pf) H556 := hP1
        have hD1 : va_D _ (LX cy ax g1 q1 bt1 rv1 pf) := hD1
        rw [e1, e2, e3] at hP1 hD1
        obtain ⟨hP, hD⟩ := lj_join (X1 := LX cy ax (fg g 2 0) (q) (fb bt 0 (fr (fun _ => nI 1023) (bt 0) 4)) rv1 pf) hP hD hk1 hF hP1 hD1
        have hE := hE0.kept hAE hS
        refine lv_aload_n hx hb dL_law_559 rfl (lv_at hl 2 rfl) ?_
        have hPs := lj_swP hP
        have hDs := lj_sw hD
        have hF := lj_free hDs hS hA
        refine wr_Vi (As := []) (rest := [.int (nI (g 2))]) ⟨hx, hb, hml, hown, hts⟩ (c_X8_forget l D cy ev H556.size am gm qm kb sc) (kz_cwV 0 hts wm_625 wm_622 wm_623 wm_624 wm_5 rfl rfl (by decide +kernel) ⟨Nat.le_of_ble_eq_true rfl, Nat.le_of_ble_eq_true rfl⟩) hK hE hPs.left kz_P0 (kz_D0 hDs.left hAE) (Nat.le_trans hsz hS.1) hS hF (kz_recv 0 hK hPs.left rfl rfl) rfl hl.1 rfl (Nat.le_of_ble_eq_true rfl) dL_law_560 ⟨(show 43 + 4 * i + 0 ≤ 622252 by omega), (show 271 + 8 * i + 0 ≤ 7235492 by omega)⟩ (fun r u H560 locs hp hP1 hD1 hz1 hk1 hS => ?_)
        obtain ⟨g2, q2, kb2, sc2⟩ := u
        obtain ⟨hr1, e1, e2, e3⟩ := hp
        have e1 : g2 = fg gm 2 0 := e1
        have e2 : q2 = qm := e2
        have e3 : kb2 = kb := e3
        subst hr1
        have hP1 : va_P D vwCl (LM cy am g2 q2 kb2 sc2) H560 := hP1
        have hD1 : va_D _ (LM cy am g2 q2 kb2 sc2) := hD1
        rw [e1, e2, e3] at hP1 hD1
        obtain ⟨hP, hD⟩ := lj_join (X1 := LM cy am (fg gm 2 0) (qm) (kb) sc2) hPs hDs hk1 hF hP1 hD1
        have hP := lj_swP hP
        have hD := lj_sw hD
        have hE := hE0.kept hAE hS
        refine kt_icmp_eq (tgt := 707) hx hb dL_law_563 (by decide) rfl rfl (fun c563 => ?_) (fun c563 => absurd (congrArg Int32.toInt (congrArg nI hB.2.g2).symm) c563)
        refine kn_iinc (k := 3) (x := 5 * i) (d := 5) (lv' := [(3, .int (nI (5 * i + 5))), (0, .ref b), (1, .ref (ax 0)), (2, .ref (am 0))]) hx hb dL_law_707 hl rfl (by decide) rfl (fun ls hl => ?_)
        refine lv_goto (tgt := 18) hx hb dL_law_710 (by decide) ?_
        refine W.widen (k := 43 + 4 * (i + 1)) (n := 271 + 8 * (i + 1)) (by omega) (by omega) ?_
        have hB1 := s_forget hB
        
        exact ih18 () _ _ _ (by omega) ⟨_, _, _, _, _, _, _, _, _, _, _, hB1, (hZ.to ⟨rfl, rfl, rfl, rfl, rfl⟩), (show g 4 ≤ i + 1 by omega), (show gm 6 ≤ i + 1 by omega), by omega, hP, hD, hS, lv_sub hl [1, 2, 3, 0] rfl⟩
      · skip
        refine lv_tableIn (tgt := 568) (off := 536) hx hb dL_law_32 (by decide) (by decide) rfl (by decide) ?_
        refine lv_aload_n hx hb dL_law_568 rfl (lv_at hl 1 rfl) ?_
        refine lv_aload_n hx hb dL_law_569 rfl (lv_at hl 0 rfl) ?_
        refine lv_iload_n hx hb dL_law_570 rfl (lv_at hl 3 rfl) ?_
        refine lv_iconst (v := nI 1) hx hb dL_law_571 (by decide) ?_
        refine kn_iadd hx hb dL_law_572 ?_
        refine kn_sld hx hb hX hbl hbA hS (by omega) hL dL_law_573 ?_
        refine ro_Vi (As := [.int (xs ((5 * i) + 1))]) (rest := []) (v := F_buttered g bt (xs ((5 * i) + 1))) ⟨hx, hb, hml, hown, hts⟩ (c_X7_buttered l D cy ev ax g q bt rv pf pa pz hB.1 hZ (xs ((5 * i) + 1))) (kz_cwV 1 hts wm_629 wm_626 wm_627 wm_628 wm_2 rfl rfl (by decide +kernel) ⟨Nat.le_of_ble_eq_true rfl, Nat.le_of_ble_eq_true rfl⟩) hK hE (hP.left.app hP.right.right) (kz_recv 0 hK hP.left rfl rfl) rfl hl.1 rfl (Nat.le_of_ble_eq_true rfl) dL_law_574 ⟨(show 43 + 4 * i + 0 ≤ 622252 by omega), (show 271 + 8 * i + 0 ≤ 7235492 by omega)⟩ ?_
        refine lv_aload_n hx hb dL_law_577 rfl (lv_at hl 2 rfl) ?_
        refine lv_aload_n hx hb dL_law_578 rfl (lv_at hl 0 rfl) ?_
        refine lv_iload_n hx hb dL_law_579 rfl (lv_at hl 3 rfl) ?_
        refine lv_iconst (v := nI 1) hx hb dL_law_580 (by decide) ?_
        refine kn_iadd hx hb dL_law_581 ?_
        refine kn_sld hx hb hX hbl hbA hS (by omega) hL dL_law_582 ?_
        refine ro_Vi (As := [.int (xs ((5 * i) + 1))]) (rest := [.int (F_buttered g bt (xs ((5 * i) + 1)))]) (v := F_buttered gm (ybt gm qm) (xs ((5 * i) + 1))) ⟨hx, hb, hml, hown, hts⟩ (c_X8_buttered l D cy ev am gm qm kb sc hY (xs ((5 * i) + 1))) (kz_cwV 1 hts wm_633 wm_630 wm_631 wm_632 wm_5 rfl rfl (by decide +kernel) ⟨Nat.le_of_ble_eq_true rfl, Nat.le_of_ble_eq_true rfl⟩) hK hE hP.right.left (kz_recv 21 hK hP rfl rfl) rfl hl.1 rfl (Nat.le_of_ble_eq_true rfl) dL_law_583 ⟨(show 43 + 4 * i + 0 ≤ 622252 by omega), (show 271 + 8 * i + 0 ≤ 7235492 by omega)⟩ ?_
        refine kt_icmp_eq (tgt := 707) hx hb dL_law_586 (by decide) rfl rfl (fun c586 => ?_) (fun c586 => absurd (congrArg Int32.toInt (a_buttered hB.2 (xs ((5 * i) + 1))).symm) c586)
        refine kn_iinc (k := 3) (x := 5 * i) (d := 5) (lv' := [(3, .int (nI (5 * i + 5))), (0, .ref b), (1, .ref (ax 0)), (2, .ref (am 0))]) hx hb dL_law_707 hl rfl (by decide) rfl (fun ls hl => ?_)
        refine lv_goto (tgt := 18) hx hb dL_law_710 (by decide) ?_
        refine W.widen (k := 43 + 4 * (i + 1)) (n := 271 + 8 * (i + 1)) (by omega) (by omega) ?_
        exact ih18 () _ _ _ (by omega) ⟨_, _, _, _, _, _, _, _, _, _, _, hB, hZ, (by omega), (by omega), by omega, hP, hD, hS, lv_sub hl [1, 2, 3, 0] rfl⟩
      · skip
        refine lv_tableIn (tgt := 591) (off := 559) hx hb dL_law_32 (by decide) (by decide) rfl (by decide) ?_
        refine lv_aload_n hx hb dL_law_591 rfl (lv_at hl 1 rfl) ?_
        refine lv_aload_n hx hb dL_law_592 rfl (lv_at hl 0 rfl) ?_
        refine lv_iload_n hx hb dL_law_593 rfl (lv_at hl 3 rfl) ?_
        refine lv_iconst (v := nI 1) hx hb dL_law_594 (by decide) ?_
        refine kn_iadd hx hb dL_law_595 ?_
        refine kn_sld hx hb hX hbl hbA hS (by omega) hL dL_law_596 ?_
        refine lv_aload_n hx hb dL_law_597 rfl (lv_at hl 0 rfl) ?_
        refine lv_iload_n hx hb dL_law_598 rfl (lv_at hl 3 rfl) ?_
        refine lv_iconst (v := nI 2) hx hb dL_law_599 (by decide) ?_
        refine kn_iadd hx hb dL_law_600 ?_
        refine kn_sld hx hb hX hbl hbA hS (by omega) hL dL_law_601 ?_
        refine lv_aload_n hx hb dL_law_602 rfl (lv_at hl 0 rfl) ?_
        refine lv_iload_n hx hb dL_law_603 rfl (lv_at hl 3 rfl) ?_
        refine lv_iconst (v := nI 3) hx hb dL_law_604 (by decide) ?_
        refine kn_iadd hx hb dL_law_605 ?_
        refine kn_sld hx hb hX hbl hbA hS (by omega) hL dL_law_606 ?_
        refine lv_aload_n hx hb dL_law_607 rfl (lv_at hl 0 rfl) ?_
        refine lv_iload_n hx hb dL_law_608 rfl (lv_at hl 3 rfl) ?_
        refine lv_iconst (v := nI 4) hx hb dL_law_609 (by decide) ?_
        refine kn_iadd hx hb dL_law_610 ?_
        refine kn_sld hx hb hX hbl hbA hS (by omega) hL dL_law_611 ?_
        refine ro_Vi (As := [.int (xs ((5 * i) + 1)), .int (xs ((5 * i) + 2)), .int (xs ((5 * i) + 3)), .int (xs ((5 * i) + 4))]) (rest := []) (v := F_sessions g q (xs ((5 * i) + 1)) (xs ((5 * i) + 2)) (xs ((5 * i) + 3)) (xs ((5 * i) + 4))) ⟨hx, hb, hml, hown, hts⟩ (c_X7_sessions l D cy ev ax g q bt rv pf pa pz hB.1 hZ (xs ((5 * i) + 1)) (xs ((5 * i) + 2)) (xs ((5 * i) + 3)) (xs ((5 * i) + 4))) (kz_cwV 4 hts wm_645 wm_642 wm_643 wm_644 wm_2 rfl rfl (by decide +kernel) ⟨Nat.le_of_ble_eq_true rfl, Nat.le_of_ble_eq_true rfl⟩) hK hE (hP.left.app hP.right.right) (kz_recv 0 hK hP.left rfl rfl) rfl hl.1 rfl (Nat.le_of_ble_eq_true rfl) dL_law_612 ⟨(show 43 + 4 * i + 0 ≤ 622252 by omega), (show 271 + 8 * i + 0 ≤ 7235492 by omega)⟩ ?_
        refine lv_aload_n hx hb dL_law_615 rfl (lv_at hl 2 rfl) ?_
        refine lv_aload_n hx hb dL_law_616 rfl (lv_at hl 0 rfl) ?_
        refine lv_iload_n hx hb dL_law_617 rfl (lv_at hl 3 rfl) ?_
        refine lv_iconst (v := nI 1) hx hb dL_law_618 (by decide) ?_
        refine kn_iadd hx hb dL_law_619 ?_
        refine kn_sld hx hb hX hbl hbA hS (by omega) hL dL_law_620 ?_
        refine lv_aload_n hx hb dL_law_621 rfl (lv_at hl 0 rfl) ?_
        refine lv_iload_n hx hb dL_law_622 rfl (lv_at hl 3 rfl) ?_
        refine lv_iconst (v := nI 2) hx hb dL_law_623 (by decide) ?_
        refine kn_iadd hx hb dL_law_624 ?_
        refine kn_sld hx hb hX hbl hbA hS (by omega) hL dL_law_625 ?_
        refine lv_aload_n hx hb dL_law_626 rfl (lv_at hl 0 rfl) ?_
        refine lv_iload_n hx hb dL_law_627 rfl (lv_at hl 3 rfl) ?_
        refine lv_iconst (v := nI 3) hx hb dL_law_628 (by decide) ?_
        refine kn_iadd hx hb dL_law_629 ?_
        refine kn_sld hx hb hX hbl hbA hS (by omega) hL dL_law_630 ?_
        refine lv_aload_n hx hb dL_law_631 rfl (lv_at hl 0 rfl) ?_
        refine lv_iload_n hx hb dL_law_632 rfl (lv_at hl 3 rfl) ?_
        refine lv_iconst (v := nI 4) hx hb dL_law_633 (by decide) ?_
        refine kn_iadd hx hb dL_law_634 ?_
        refine kn_sld hx hb hX hbl hbA hS (by omega) hL dL_law_635 ?_
        have hPs := lj_swP hP
        have hDs := lj_sw hD
        have hF := lj_free hDs hS hA
        refine wr_Vi (As := [.int (xs ((5 * i) + 1)), .int (xs ((5 * i) + 2)), .int (xs ((5 * i) + 3)), .int (xs ((5 * i) + 4))]) (rest := [.int (F_sessions g q (xs ((5 * i) + 1)) (xs ((5 * i) + 2)) (xs ((5 * i) + 3)) (xs ((5 * i) + 4)))]) ⟨hx, hb, hml, hown, hts⟩ (c_X8_sessions l D cy ev H.size am gm qm kb sc hY (xs ((5 * i) + 1)) (xs ((5 * i) + 2)) (xs ((5 * i) + 3)) (xs ((5 * i) + 4))) (kz_cwV 4 hts wm_660 wm_657 wm_658 wm_659 wm_5 rfl rfl (by decide +kernel) ⟨Nat.le_of_ble_eq_true rfl, Nat.le_of_ble_eq_true rfl⟩) hK hE hPs.left kz_P0 (kz_D0 hDs.left hAE) (Nat.le_trans hsz hS.1) hS hF (kz_recv 0 hK hPs.left rfl rfl) rfl hl.1 rfl (Nat.le_of_ble_eq_true rfl) dL_law_636 ⟨(show 43 + 4 * i + 0 ≤ 622252 by omega), (show 271 + 8 * i + 0 ≤ 7235492 by omega)⟩ (fun r u H636 locs hp hP1 hD1 hz1 hk1 hS => ?_)
        obtain ⟨g2, q2, kb2, sc2⟩ := u
        obtain ⟨hr1, e1, e2, e3⟩ := hp
        have e1 : g2 = gm := e1
        have e2 : q2 = qm := e2
        have e3 : kb2 = kb := e3
        subst hr1
        have hP1 : va_P D vwCl (LM cy am g2 q2 kb2 sc2) H636 := hP1
        have hD1 : va_D _ (LM cy am g2 q2 kb2 sc2) := hD1
        rw [e1, e2, e3] at hP1 hD1
        obtain ⟨hP, hD⟩ := lj_join (X1 := LM cy am (gm) (qm) (kb) sc2) hPs hDs hk1 hF hP1 hD1
        have hP := lj_swP hP
        have hD := lj_sw hD
        have hE := hE0.kept hAE hS
        refine kt_icmp_eq (tgt := 707) hx hb dL_law_639 (by decide) rfl rfl (fun c639 => ?_) (fun c639 => absurd (congrArg Int32.toInt (a_sessions hB.2 (xs ((5 * i) + 1)) (xs ((5 * i) + 2)) (xs ((5 * i) + 3)) (xs ((5 * i) + 4))).symm) c639)
        refine kn_iinc (k := 3) (x := 5 * i) (d := 5) (lv' := [(3, .int (nI (5 * i + 5))), (0, .ref b), (1, .ref (ax 0)), (2, .ref (am 0))]) hx hb dL_law_707 hl rfl (by decide) rfl (fun ls hl => ?_)
        refine lv_goto (tgt := 18) hx hb dL_law_710 (by decide) ?_
        refine W.widen (k := 43 + 4 * (i + 1)) (n := 271 + 8 * (i + 1)) (by omega) (by omega) ?_
        exact ih18 () _ _ _ (by omega) ⟨_, _, _, _, _, _, _, _, _, _, _, hB, hZ, (by omega), (by omega), by omega, hP, hD, hS, lv_sub hl [1, 2, 3, 0] rfl⟩
      · skip
        refine lv_tableIn (tgt := 644) (off := 612) hx hb dL_law_32 (by decide) (by decide) rfl (by decide) ?_
        refine lv_aload_n hx hb dL_law_644 rfl (lv_at hl 1 rfl) ?_
        by_cases c0 : g 0 = 0
        · skip
          have hF := lj_free hD hS hA
          refine wr_Vi (As := []) (rest := []) ⟨hx, hb, hml, hown, hts⟩ (c_X7_image l D cy ev H.size ax g q bt rv pf hB.1) (kz_cwV 0 hts wm_677 wm_674 wm_675 wm_676 wm_2 rfl rfl (by decide +kernel) ⟨Nat.le_of_ble_eq_true rfl, Nat.le_of_ble_eq_true rfl⟩) hK hE hP.left kz_P0 (kz_D0 hD.left hAE) (Nat.le_trans hsz hS.1) hS hF (kz_recv 0 hK hP.left rfl rfl) rfl hl.1 rfl (Nat.le_of_ble_eq_true rfl) dL_law_645 ⟨(show 43 + 4 * i + 0 ≤ 622252 by omega), (show 271 + 8 * i + 0 ≤ 7235492 by omega)⟩ (fun r u H645 locs hp hP1 hD1 hz1 hk1 hS => ?_)
          obtain ⟨g1, q1, bt1, rv1⟩ := u
          obtain ⟨hr1, hp⟩ := hp
          rw [if_pos c0] at hp
          obtain ⟨e1, e2, e3⟩ := hp
          have e1 : g1 = g := e1
          have e2 : q1 = q := e2
          have e3 : bt1 = bt := e3
          subst hr1
          have hP1 : va_P D vwCl (LX cy ax g1 q1 bt1 rv1 pf) H645 := hP1
          have hD1 : va_D _ (LX cy ax g1 q1 bt1 rv1 pf) := hD1
          rw [e1, e2, e3] at hP1 hD1
          obtain ⟨hP, hD⟩ := lj_join (X1 := LX cy ax (g) (q) (bt) rv1 pf) hP hD hk1 hF hP1 hD1
          have hE := hE0.kept hAE hS
          refine lv_aload_n hx hb dL_law_648 rfl (lv_at hl 2 rfl) ?_
          have hPs := lj_swP hP
          have hDs := lj_sw hD
          have hF := lj_free hDs hS hA
          refine wr_Vi (As := []) (rest := [.int (F_image g)]) ⟨hx, hb, hml, hown, hts⟩ (c_X8_image l D cy ev H645.size am gm qm kb sc hY) (kz_cwV 0 hts wm_686 wm_683 wm_684 wm_685 wm_5 rfl rfl (by decide +kernel) ⟨Nat.le_of_ble_eq_true rfl, Nat.le_of_ble_eq_true rfl⟩) hK hE hPs.left kz_P0 (kz_D0 hDs.left hAE) (Nat.le_trans hsz hS.1) hS hF (kz_recv 0 hK hPs.left rfl rfl) rfl hl.1 rfl (Nat.le_of_ble_eq_true rfl) dL_law_649 ⟨(show 43 + 4 * i + 0 ≤ 622252 by omega), (show 271 + 8 * i + 0 ≤ 7235492 by omega)⟩ (fun r u H649 locs hp hP1 hD1 hz1 hk1 hS => ?_)
          obtain ⟨g2, q2, kb2, sc2⟩ := u
          obtain ⟨hr1, hp⟩ := hp
          rw [if_pos (hB.2.g0.trans c0)] at hp
          obtain ⟨e1, e2, e3⟩ := hp
          have e1 : g2 = gm := e1
          have e2 : q2 = qm := e2
          have e3 : kb2 = kb := e3
          subst hr1
          have hP1 : va_P D vwCl (LM cy am g2 q2 kb2 sc2) H649 := hP1
          have hD1 : va_D _ (LM cy am g2 q2 kb2 sc2) := hD1
          rw [e1, e2, e3] at hP1 hD1
          obtain ⟨hP, hD⟩ := lj_join (X1 := LM cy am (gm) (qm) (kb) sc2) hPs hDs hk1 hF hP1 hD1
          have hP := lj_swP hP
          have hD := lj_sw hD
          have hE := hE0.kept hAE hS
          refine kt_icmp_eq (tgt := 707) hx hb dL_law_652 (by decide) rfl rfl (fun c652 => ?_) (fun c652 => absurd (congrArg Int32.toInt (a_image hB.2).symm) c652)
          refine kn_iinc (k := 3) (x := 5 * i) (d := 5) (lv' := [(3, .int (nI (5 * i + 5))), (0, .ref b), (1, .ref (ax 0)), (2, .ref (am 0))]) hx hb dL_law_707 hl rfl (by decide) rfl (fun ls hl => ?_)
          refine lv_goto (tgt := 18) hx hb dL_law_710 (by decide) ?_
          refine W.widen (k := 43 + 4 * (i + 1)) (n := 271 + 8 * (i + 1)) (by omega) (by omega) ?_
          exact ih18 () _ _ _ (by omega) ⟨_, _, _, _, _, _, _, _, _, _, _, hB, hZ, (by omega), (by omega), by omega, hP, hD, hS, lv_sub hl [1, 2, 3, 0] rfl⟩
        · skip
          have hF := lj_free hD hS hA
          refine wr_Vi (As := []) (rest := []) ⟨hx, hb, hml, hown, hts⟩ (c_X7_image l D cy ev H.size ax g q bt rv pf hB.1) (kz_cwV 0 hts wm_677 wm_674 wm_675 wm_676 wm_2 rfl rfl (by decide +kernel) ⟨Nat.le_of_ble_eq_true rfl, Nat.le_of_ble_eq_true rfl⟩) hK hE hP.left kz_P0 (kz_D0 hD.left hAE) (Nat.le_trans hsz hS.1) hS hF (kz_recv 0 hK hP.left rfl rfl) rfl hl.1 rfl (Nat.le_of_ble_eq_true rfl) dL_law_645 ⟨(show 43 + 4 * i + 0 ≤ 622252 by omega), (show 271 + 8 * i + 0 ≤ 7235492 by omega)⟩ (fun r u H645 locs hp hP1 hD1 hz1 hk1 hS => ?_)
          obtain ⟨g1, q1, bt1, rv1⟩ := u
          obtain ⟨hr1, hp⟩ := hp
          rw [if_neg c0] at hp
          obtain ⟨e1, e2, e3⟩ := hp
          have e1 : g1 = img g := e1
          have e2 : q1 = imq q := e2
          have e3 : bt1 = imb bt := e3
          subst hr1
          have hP1 : va_P D vwCl (LX cy ax g1 q1 bt1 rv1 pf) H645 := hP1
          have hD1 : va_D _ (LX cy ax g1 q1 bt1 rv1 pf) := hD1
          rw [e1, e2, e3] at hP1 hD1
          obtain ⟨hP, hD⟩ := lj_join (X1 := LX cy ax (img g) (imq q) (imb bt) rv1 pf) hP hD hk1 hF hP1 hD1
          have hE := hE0.kept hAE hS
          refine lv_aload_n hx hb dL_law_648 rfl (lv_at hl 2 rfl) ?_
          have hPs := lj_swP hP
          have hDs := lj_sw hD
          have hF := lj_free hDs hS hA
          refine wr_Vi (As := []) (rest := [.int (F_image g)]) ⟨hx, hb, hml, hown, hts⟩ (c_X8_image l D cy ev H645.size am gm qm kb sc hY) (kz_cwV 0 hts wm_686 wm_683 wm_684 wm_685 wm_5 rfl rfl (by decide +kernel) ⟨Nat.le_of_ble_eq_true rfl, Nat.le_of_ble_eq_true rfl⟩) hK hE hPs.left kz_P0 (kz_D0 hDs.left hAE) (Nat.le_trans hsz hS.1) hS hF (kz_recv 0 hK hPs.left rfl rfl) rfl hl.1 rfl (Nat.le_of_ble_eq_true rfl) dL_law_649 ⟨(show 43 + 4 * i + 0 ≤ 622252 by omega), (show 271 + 8 * i + 0 ≤ 7235492 by omega)⟩ (fun r u H649 locs hp hP1 hD1 hz1 hk1 hS => ?_)
          obtain ⟨g2, q2, kb2, sc2⟩ := u
          obtain ⟨hr1, hp⟩ := hp
          rw [if_neg (fun h9 => c0 (hB.2.g0.symm.trans h9))] at hp
          obtain ⟨e1, e2, e3⟩ := hp
          have e1 : g2 = img gm := e1
          have e2 : q2 = imh qm := e2
          have e3 : kb2 = true := e3
          subst hr1
          have hP1 : va_P D vwCl (LM cy am g2 q2 kb2 sc2) H649 := hP1
          have hD1 : va_D _ (LM cy am g2 q2 kb2 sc2) := hD1
          rw [e1, e2, e3] at hP1 hD1
          obtain ⟨hP, hD⟩ := lj_join (X1 := LM cy am (img gm) (imh qm) (true) sc2) hPs hDs hk1 hF hP1 hD1
          have hP := lj_swP hP
          have hD := lj_sw hD
          have hE := hE0.kept hAE hS
          refine kt_icmp_eq (tgt := 707) hx hb dL_law_652 (by decide) rfl rfl (fun c652 => ?_) (fun c652 => absurd (congrArg Int32.toInt (a_image hB.2).symm) c652)
          refine kn_iinc (k := 3) (x := 5 * i) (d := 5) (lv' := [(3, .int (nI (5 * i + 5))), (0, .ref b), (1, .ref (ax 0)), (2, .ref (am 0))]) hx hb dL_law_707 hl rfl (by decide) rfl (fun ls hl => ?_)
          refine lv_goto (tgt := 18) hx hb dL_law_710 (by decide) ?_
          refine W.widen (k := 43 + 4 * (i + 1)) (n := 271 + 8 * (i + 1)) (by omega) (by omega) ?_
          have hB1 := s_image hB c0
          
          exact ih18 () _ _ _ (by omega) ⟨_, _, _, _, _, _, _, _, _, _, _, hB1, (hZ.to ⟨rfl, rfl, rfl, rfl, rfl⟩), (show g 4 ≤ i + 1 by omega), (show gm 4 ≤ i + 1 by have := hB.2.g4; omega), by omega, hP, hD, hS, lv_sub hl [1, 2, 3, 0] rfl⟩
      · skip
        refine lv_tableIn (tgt := 657) (off := 625) hx hb dL_law_32 (by decide) (by decide) rfl (by decide) ?_
        refine lv_aload_n hx hb dL_law_657 rfl (lv_at hl 1 rfl) ?_
        by_cases c0 : g 6 = 0 ∨ g 6 ≠ g 4
        · skip
          have hF := lj_free hD hS hA
          refine wr_Vi (As := []) (rest := []) ⟨hx, hb, hml, hown, hts⟩ (c_X7_restore l D cy ev H.size ax g q bt rv pf hB.1 (by omega)) (kz_cwV 0 hts wm_695 wm_692 wm_693 wm_694 wm_2 rfl rfl (by decide +kernel) ⟨Nat.le_of_ble_eq_true rfl, Nat.le_of_ble_eq_true rfl⟩) hK hE hP.left kz_P0 (kz_D0 hD.left hAE) (Nat.le_trans hsz hS.1) hS hF (kz_recv 0 hK hP.left rfl rfl) rfl hl.1 rfl (Nat.le_of_ble_eq_true rfl) dL_law_658 ⟨(show 43 + 4 * i + 0 ≤ 622252 by omega), (show 271 + 8 * i + 0 ≤ 7235492 by omega)⟩ (fun r u H658 locs hp hP1 hD1 hz1 hk1 hS => ?_)
          obtain ⟨g1, q1, bt1, rv1⟩ := u
          obtain ⟨hr1, hp⟩ := hp
          rw [if_pos c0] at hp
          obtain ⟨e1, e2, e3⟩ := hp
          have e1 : g1 = g := e1
          have e2 : q1 = q := e2
          have e3 : bt1 = bt := e3
          subst hr1
          have hP1 : va_P D vwCl (LX cy ax g1 q1 bt1 rv1 pf) H658 := hP1
          have hD1 : va_D _ (LX cy ax g1 q1 bt1 rv1 pf) := hD1
          rw [e1, e2, e3] at hP1 hD1
          obtain ⟨hP, hD⟩ := lj_join (X1 := LX cy ax (g) (q) (bt) rv1 pf) hP hD hk1 hF hP1 hD1
          have hE := hE0.kept hAE hS
          refine lv_aload_n hx hb dL_law_661 rfl (lv_at hl 2 rfl) ?_
          have hPs := lj_swP hP
          have hDs := lj_sw hD
          have hF := lj_free hDs hS hA
          refine wr_Vi (As := []) (rest := [.int (F_restore g)]) ⟨hx, hb, hml, hown, hts⟩ (c_X8_restore l D cy ev H658.size am gm qm kb sc (by omega) (by omega)) (kz_cwV 0 hts wm_699 wm_696 wm_697 wm_698 wm_5 rfl rfl (by decide +kernel) ⟨Nat.le_of_ble_eq_true rfl, Nat.le_of_ble_eq_true rfl⟩) hK hE hPs.left kz_P0 (kz_D0 hDs.left hAE) (Nat.le_trans hsz hS.1) hS hF (kz_recv 0 hK hPs.left rfl rfl) rfl hl.1 rfl (Nat.le_of_ble_eq_true rfl) dL_law_662 ⟨(show 43 + 4 * i + 0 ≤ 622252 by omega), (show 271 + 8 * i + 0 ≤ 7235492 by omega)⟩ (fun r u H662 locs hp hP1 hD1 hz1 hk1 hS => ?_)
          obtain ⟨g2, q2, kb2, sc2⟩ := u
          obtain ⟨hr1, hp⟩ := hp
          rw [if_pos ((kept_r hB.2).mpr c0)] at hp
          obtain ⟨e1, e2, e3⟩ := hp
          have e1 : g2 = gm := e1
          have e2 : q2 = qm := e2
          have e3 : kb2 = kb := e3
          subst hr1
          have hP1 : va_P D vwCl (LM cy am g2 q2 kb2 sc2) H662 := hP1
          have hD1 : va_D _ (LM cy am g2 q2 kb2 sc2) := hD1
          rw [e1, e2, e3] at hP1 hD1
          obtain ⟨hP, hD⟩ := lj_join (X1 := LM cy am (gm) (qm) (kb) sc2) hPs hDs hk1 hF hP1 hD1
          have hP := lj_swP hP
          have hD := lj_sw hD
          have hE := hE0.kept hAE hS
          refine kt_icmp_eq (tgt := 707) hx hb dL_law_665 (by decide) rfl rfl (fun c665 => ?_) (fun c665 => absurd (congrArg Int32.toInt (a_restore hB.2).symm) c665)
          refine kn_iinc (k := 3) (x := 5 * i) (d := 5) (lv' := [(3, .int (nI (5 * i + 5))), (0, .ref b), (1, .ref (ax 0)), (2, .ref (am 0))]) hx hb dL_law_707 hl rfl (by decide) rfl (fun ls hl => ?_)
          refine lv_goto (tgt := 18) hx hb dL_law_710 (by decide) ?_
          refine W.widen (k := 43 + 4 * (i + 1)) (n := 271 + 8 * (i + 1)) (by omega) (by omega) ?_
          exact ih18 () _ _ _ (by omega) ⟨_, _, _, _, _, _, _, _, _, _, _, hB, hZ, (by omega), (by omega), by omega, hP, hD, hS, lv_sub hl [1, 2, 3, 0] rfl⟩
        · skip
          have hF := lj_free hD hS hA
          refine wr_Vi (As := []) (rest := []) ⟨hx, hb, hml, hown, hts⟩ (c_X7_restore l D cy ev H.size ax g q bt rv pf hB.1 (by omega)) (kz_cwV 0 hts wm_695 wm_692 wm_693 wm_694 wm_2 rfl rfl (by decide +kernel) ⟨Nat.le_of_ble_eq_true rfl, Nat.le_of_ble_eq_true rfl⟩) hK hE hP.left kz_P0 (kz_D0 hD.left hAE) (Nat.le_trans hsz hS.1) hS hF (kz_recv 0 hK hP.left rfl rfl) rfl hl.1 rfl (Nat.le_of_ble_eq_true rfl) dL_law_658 ⟨(show 43 + 4 * i + 0 ≤ 622252 by omega), (show 271 + 8 * i + 0 ≤ 7235492 by omega)⟩ (fun r u H658 locs hp hP1 hD1 hz1 hk1 hS => ?_)
          obtain ⟨g1, q1, bt1, rv1⟩ := u
          obtain ⟨hr1, hp⟩ := hp
          rw [if_neg c0] at hp
          obtain ⟨e1, e2, e3⟩ := hp
          have e1 : g1 = reg g := e1
          have e2 : q1 = req q := e2
          have e3 : bt1 = reb bt := e3
          subst hr1
          have hP1 : va_P D vwCl (LX cy ax g1 q1 bt1 rv1 pf) H658 := hP1
          have hD1 : va_D _ (LX cy ax g1 q1 bt1 rv1 pf) := hD1
          rw [e1, e2, e3] at hP1 hD1
          obtain ⟨hP, hD⟩ := lj_join (X1 := LX cy ax (reg g) (req q) (reb bt) rv1 pf) hP hD hk1 hF hP1 hD1
          have hE := hE0.kept hAE hS
          refine lv_aload_n hx hb dL_law_661 rfl (lv_at hl 2 rfl) ?_
          have hPs := lj_swP hP
          have hDs := lj_sw hD
          have hF := lj_free hDs hS hA
          refine wr_Vi (As := []) (rest := [.int (F_restore g)]) ⟨hx, hb, hml, hown, hts⟩ (c_X8_restore l D cy ev H658.size am gm qm kb sc (by omega) (by omega)) (kz_cwV 0 hts wm_699 wm_696 wm_697 wm_698 wm_5 rfl rfl (by decide +kernel) ⟨Nat.le_of_ble_eq_true rfl, Nat.le_of_ble_eq_true rfl⟩) hK hE hPs.left kz_P0 (kz_D0 hDs.left hAE) (Nat.le_trans hsz hS.1) hS hF (kz_recv 0 hK hPs.left rfl rfl) rfl hl.1 rfl (Nat.le_of_ble_eq_true rfl) dL_law_662 ⟨(show 43 + 4 * i + 0 ≤ 622252 by omega), (show 271 + 8 * i + 0 ≤ 7235492 by omega)⟩ (fun r u H662 locs hp hP1 hD1 hz1 hk1 hS => ?_)
          obtain ⟨g2, q2, kb2, sc2⟩ := u
          obtain ⟨hr1, hp⟩ := hp
          rw [if_neg (fun h9 => c0 ((kept_r hB.2).mp h9))] at hp
          obtain ⟨e1, e2, e3⟩ := hp
          have e1 : g2 = reg gm := e1
          have e2 : q2 = reh qm := e2
          have e3 : kb2 = kb := e3
          subst hr1
          have hP1 : va_P D vwCl (LM cy am g2 q2 kb2 sc2) H662 := hP1
          have hD1 : va_D _ (LM cy am g2 q2 kb2 sc2) := hD1
          rw [e1, e2, e3] at hP1 hD1
          obtain ⟨hP, hD⟩ := lj_join (X1 := LM cy am (reg gm) (reh qm) (kb) sc2) hPs hDs hk1 hF hP1 hD1
          have hP := lj_swP hP
          have hD := lj_sw hD
          have hE := hE0.kept hAE hS
          refine kt_icmp_eq (tgt := 707) hx hb dL_law_665 (by decide) rfl rfl (fun c665 => ?_) (fun c665 => absurd (congrArg Int32.toInt (a_restore hB.2).symm) c665)
          refine kn_iinc (k := 3) (x := 5 * i) (d := 5) (lv' := [(3, .int (nI (5 * i + 5))), (0, .ref b), (1, .ref (ax 0)), (2, .ref (am 0))]) hx hb dL_law_707 hl rfl (by decide) rfl (fun ls hl => ?_)
          refine lv_goto (tgt := 18) hx hb dL_law_710 (by decide) ?_
          refine W.widen (k := 43 + 4 * (i + 1)) (n := 271 + 8 * (i + 1)) (by omega) (by omega) ?_
          have hB1 := s_restore hB c0
          
          exact ih18 () _ _ _ (by omega) ⟨_, _, _, _, _, _, _, _, _, _, _, hB1, (hZ.to ⟨rfl, rfl, rfl, rfl, rfl⟩), (show g 4 ≤ i + 1 by omega), (show gm 6 ≤ i + 1 by omega), by omega, hP, hD, hS, lv_sub hl [1, 2, 3, 0] rfl⟩
      · skip
        refine lv_tableIn (tgt := 670) (off := 638) hx hb dL_law_32 (by decide) (by decide) rfl (by decide) ?_
        refine lv_aload_n hx hb dL_law_670 rfl (lv_at hl 1 rfl) ?_
        refine lv_aload_n hx hb dL_law_671 rfl (lv_at hl 0 rfl) ?_
        refine lv_iload_n hx hb dL_law_672 rfl (lv_at hl 3 rfl) ?_
        refine lv_iconst (v := nI 1) hx hb dL_law_673 (by decide) ?_
        refine kn_iadd hx hb dL_law_674 ?_
        refine kn_sld hx hb hX hbl hbA hS (by omega) hL dL_law_675 ?_
        refine ro_Vi (As := [.int (xs ((5 * i) + 1))]) (rest := []) (v := F_count g q (xs ((5 * i) + 1))) ⟨hx, hb, hml, hown, hts⟩ (c_X7_count l D cy ev ax g q bt rv pf hB.1 (xs ((5 * i) + 1))) (kz_cwV 1 hts wm_703 wm_700 wm_701 wm_702 wm_2 rfl rfl (by decide +kernel) ⟨Nat.le_of_ble_eq_true rfl, Nat.le_of_ble_eq_true rfl⟩) hK hE hP.left (kz_recv 0 hK hP.left rfl rfl) rfl hl.1 rfl (Nat.le_of_ble_eq_true rfl) dL_law_676 ⟨(show 43 + 4 * i + 0 ≤ 622252 by omega), (show 271 + 8 * i + 0 ≤ 7235492 by omega)⟩ ?_
        refine lv_aload_n hx hb dL_law_679 rfl (lv_at hl 2 rfl) ?_
        refine lv_aload_n hx hb dL_law_680 rfl (lv_at hl 0 rfl) ?_
        refine lv_iload_n hx hb dL_law_681 rfl (lv_at hl 3 rfl) ?_
        refine lv_iconst (v := nI 1) hx hb dL_law_682 (by decide) ?_
        refine kn_iadd hx hb dL_law_683 ?_
        refine kn_sld hx hb hX hbl hbA hS (by omega) hL dL_law_684 ?_
        refine ro_Vi (As := [.int (xs ((5 * i) + 1))]) (rest := [.int (F_count g q (xs ((5 * i) + 1)))]) (v := F_count gm qm (xs ((5 * i) + 1))) ⟨hx, hb, hml, hown, hts⟩ (c_X8_count l D cy ev am gm qm kb sc hY (xs ((5 * i) + 1))) (kz_cwV 1 hts wm_707 wm_704 wm_705 wm_706 wm_5 rfl rfl (by decide +kernel) ⟨Nat.le_of_ble_eq_true rfl, Nat.le_of_ble_eq_true rfl⟩) hK hE hP.right.left (kz_recv 21 hK hP rfl rfl) rfl hl.1 rfl (Nat.le_of_ble_eq_true rfl) dL_law_685 ⟨(show 43 + 4 * i + 0 ≤ 622252 by omega), (show 271 + 8 * i + 0 ≤ 7235492 by omega)⟩ ?_
        refine kt_icmp_eq (tgt := 707) hx hb dL_law_688 (by decide) rfl rfl (fun c688 => ?_) (fun c688 => absurd (congrArg Int32.toInt (a_count hB.2 (xs ((5 * i) + 1))).symm) c688)
        refine kn_iinc (k := 3) (x := 5 * i) (d := 5) (lv' := [(3, .int (nI (5 * i + 5))), (0, .ref b), (1, .ref (ax 0)), (2, .ref (am 0))]) hx hb dL_law_707 hl rfl (by decide) rfl (fun ls hl => ?_)
        refine lv_goto (tgt := 18) hx hb dL_law_710 (by decide) ?_
        refine W.widen (k := 43 + 4 * (i + 1)) (n := 271 + 8 * (i + 1)) (by omega) (by omega) ?_
        exact ih18 () _ _ _ (by omega) ⟨_, _, _, _, _, _, _, _, _, _, _, hB, hZ, (by omega), (by omega), by omega, hP, hD, hS, lv_sub hl [1, 2, 3, 0] rfl⟩
      · skip
        refine lv_tableIn (tgt := 693) (off := 661) hx hb dL_law_32 (by decide) (by decide) rfl (by decide) ?_
        refine lv_aload_n hx hb dL_law_693 rfl (lv_at hl 1 rfl) ?_
        have hF := lj_free hD hS hA
        refine wr_Vl (As := []) (rest := []) ⟨hx, hb, hml, hown, hts⟩ (c_X7_digest l D cy ev H.size ax g q bt rv pf pa pz hB.1 hZ) (kz_cwV 0 hts wm_719 wm_716 wm_717 wm_718 wm_2 rfl rfl (by decide +kernel) ⟨Nat.le_of_ble_eq_true rfl, Nat.le_of_ble_eq_true rfl⟩) hK hE hP.left hP.right.right ((lj_xz hD).weaken (fun _ q9 _ h => hAE q9.1 h)) (Nat.le_trans hsz hS.1) hS hF (kz_recv 0 hK hP.left rfl rfl) rfl hl.1 rfl (Nat.le_of_ble_eq_true rfl) dL_law_694 ⟨(show 43 + 4 * i + 0 ≤ 622252 by omega), (show 271 + 8 * i + 0 ≤ 7235492 by omega)⟩ (fun r u H694 locs hp hP1 hD1 hz1 hk1 hS => ?_)
        have hr1 : r = F_digest g q bt := hp
        subst hr1
        obtain ⟨hP, hD⟩ := lj_join (X1 := LX cy ax g q bt u pf) hP hD hk1 hF hP1 hD1
        have hE := hE0.kept hAE hS
        refine lv_aload_n hx hb dL_law_697 rfl (lv_at hl 2 rfl) ?_
        have hPs := lj_swP hP
        have hDs := lj_sw hD
        have hF := lj_free hDs hS hA
        refine wr_Vl (As := []) (rest := [.long (F_digest g q bt)]) ⟨hx, hb, hml, hown, hts⟩ (c_X8_digest l D cy ev H694.size am gm qm kb sc hY) (kz_cwV 0 hts wm_738 wm_735 wm_736 wm_737 wm_5 rfl rfl (by decide +kernel) ⟨Nat.le_of_ble_eq_true rfl, Nat.le_of_ble_eq_true rfl⟩) hK hE hPs.left kz_P0 (kz_D0 hDs.left hAE) (Nat.le_trans hsz hS.1) hS hF (kz_recv 0 hK hPs.left rfl rfl) rfl hl.1 rfl (Nat.le_of_ble_eq_true rfl) dL_law_698 ⟨(show 43 + 4 * i + 0 ≤ 622252 by omega), (show 271 + 8 * i + 0 ≤ 7235492 by omega)⟩ (fun r u H698 locs hp hP1 hD1 hz1 hk1 hS => ?_)
        obtain ⟨g2, q2, kb2, sc2⟩ := u
        obtain ⟨hr1, e1, e2, e3⟩ := hp
        have e1 : g2 = gm := e1
        have e2 : q2 = qm := e2
        have e3 : kb2 = kb := e3
        subst hr1
        have hP1 : va_P D vwCl (LM cy am g2 q2 kb2 sc2) H698 := hP1
        have hD1 : va_D _ (LM cy am g2 q2 kb2 sc2) := hD1
        rw [e1, e2, e3] at hP1 hD1
        obtain ⟨hP, hD⟩ := lj_join (X1 := LM cy am (gm) (qm) (kb) sc2) hPs hDs hk1 hF hP1 hD1
        have hP := lj_swP hP
        have hD := lj_sw hD
        have hE := hE0.kept hAE hS
        refine kt_lcmp_eq (tgt := 707) hx hb dL_law_701 dL_law_702 (by decide) rfl rfl (fun c701 => ?_) (fun c701 => absurd (congrArg Int64.toInt (a_digest hB.2).symm) c701)
        refine kn_iinc (k := 3) (x := 5 * i) (d := 5) (lv' := [(3, .int (nI (5 * i + 5))), (0, .ref b), (1, .ref (ax 0)), (2, .ref (am 0))]) hx hb dL_law_707 hl rfl (by decide) rfl (fun ls hl => ?_)
        refine lv_goto (tgt := 18) hx hb dL_law_710 (by decide) ?_
        refine W.widen (k := 43 + 4 * (i + 1)) (n := 271 + 8 * (i + 1)) (by omega) (by omega) ?_
        exact ih18 () _ _ _ (by omega) ⟨_, _, _, _, _, _, _, _, _, _, _, hB, hZ, (by omega), (by omega), by omega, hP, hD, hS, lv_sub hl [1, 2, 3, 0] rfl⟩
