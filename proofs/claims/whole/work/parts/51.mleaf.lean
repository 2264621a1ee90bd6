set_option maxHeartbeats 4000000 in
set_option maxRecDepth 100000 in
theorem c_X8_within_t (l : Launch) (D : va_G) (cy : Nat → ClassId) (ev : kz_V) (v lo hi : Int32) (V_ LO HI : Int) (h1 : v.toInt = V_) (h2 : lo.toInt = LO) (h3 : hi.toInt = HI) (h : LO ≤ V_ ∧ V_ ≤ HI) : Met l yX8_within (.code yX8_within cX8_within 3 (some .boolean) :: WB) { frames := 0, cells := 0, slots := 0, locals := 0 } (ro_Pc D cy ev [.int v, .int lo, .int hi] []) (vp_Si (fun r => r = bI true)) 0 0 (fun _ => False) := by
  refine Met.ofW (cc := cX8_within) (maxL := 3) (ret := (some .boolean)) (by decide) rfl ?_
  intro p e s m args below meth c s₁ B hml hv
  obtain ⟨rfl, hP, hK, hE⟩ := hv
  have hx := B.exec
  have hb := B.bytes
  have hr := B.returns
  have hlk := B.notSynchronized
  have hts : ∀ w ∈ WB, w.before _ s = true := fun w h => atoms_spec B.pre w (List.mem_cons_of_mem _ h)
  have hown : s.vm.findClass RX8 = some m.cls := findClass_of_methodNamed B.named
  have hl := lv_entry ([.int v, .int lo, .int hi]) (n := 3) (Nat.le_of_ble_eq_true rfl)
  rw [lg_entry_eq]
  generalize (lg_sl ([.int v, .int lo, .int hi]) ++ List.replicate (3 - (lg_sl ([.int v, .int lo, .int hi])).length) Slot.unset).toArray = ls at hl ⊢
  have hl : lv_has ls 3 [(0, .int v), (1, .int lo), (2, .int hi)] := hl
  refine lv_iload_n hx hb dX8_within_0 rfl (lv_at hl 0 rfl) ?_
  refine lv_iload_n hx hb dX8_within_1 rfl (lv_at hl 1 rfl) ?_
  refine kt_icmp_lt (tgt := 14) hx hb dX8_within_2 (by decide) h1 h2 (fun c2 => absurd c2 (by omega)) (fun c2 => ?_)
  refine lv_iload_n hx hb dX8_within_5 rfl (lv_at hl 0 rfl) ?_
  refine lv_iload_n hx hb dX8_within_6 rfl (lv_at hl 2 rfl) ?_
  refine kt_icmp_gt (tgt := 14) hx hb dX8_within_7 (by decide) h1 h3 (fun c7 => absurd c7 (by omega)) (fun c7 => ?_)
  refine lv_iconst (v := nI 1) hx hb dX8_within_10 (by decide) ?_
  refine lv_goto (tgt := 15) hx hb dX8_within_11 (by decide) ?_
  exact ro_rz hx hb hr hlk dX8_within_15 rfl (rfl)
set_option maxHeartbeats 4000000 in
set_option maxRecDepth 100000 in
theorem c_X8_within_f (l : Launch) (D : va_G) (cy : Nat → ClassId) (ev : kz_V) (v lo hi : Int32) (V_ LO HI : Int) (h1 : v.toInt = V_) (h2 : lo.toInt = LO) (h3 : hi.toInt = HI) (h : ¬ (LO ≤ V_ ∧ V_ ≤ HI)) : Met l yX8_within (.code yX8_within cX8_within 3 (some .boolean) :: WB) { frames := 0, cells := 0, slots := 0, locals := 0 } (ro_Pc D cy ev [.int v, .int lo, .int hi] []) (vp_Si (fun r => r = bI false)) 0 0 (fun _ => False) := by
  refine Met.ofW (cc := cX8_within) (maxL := 3) (ret := (some .boolean)) (by decide) rfl ?_
  intro p e s m args below meth c s₁ B hml hv
  obtain ⟨rfl, hP, hK, hE⟩ := hv
  have hx := B.exec
  have hb := B.bytes
  have hr := B.returns
  have hlk := B.notSynchronized
  have hts : ∀ w ∈ WB, w.before _ s = true := fun w h => atoms_spec B.pre w (List.mem_cons_of_mem _ h)
  have hown : s.vm.findClass RX8 = some m.cls := findClass_of_methodNamed B.named
  have hl := lv_entry ([.int v, .int lo, .int hi]) (n := 3) (Nat.le_of_ble_eq_true rfl)
  rw [lg_entry_eq]
  generalize (lg_sl ([.int v, .int lo, .int hi]) ++ List.replicate (3 - (lg_sl ([.int v, .int lo, .int hi])).length) Slot.unset).toArray = ls at hl ⊢
  have hl : lv_has ls 3 [(0, .int v), (1, .int lo), (2, .int hi)] := hl
  refine lv_iload_n hx hb dX8_within_0 rfl (lv_at hl 0 rfl) ?_
  refine lv_iload_n hx hb dX8_within_1 rfl (lv_at hl 1 rfl) ?_
  refine kt_icmp_lt (tgt := 14) hx hb dX8_within_2 (by decide) h1 h2 (fun c2 => ?_) (fun c2 => ?_)
  · skip
    refine lv_iconst (v := nI 0) hx hb dX8_within_14 (by decide) ?_
    exact ro_rz hx hb hr hlk dX8_within_15 rfl (rfl)
  · skip
    refine lv_iload_n hx hb dX8_within_5 rfl (lv_at hl 0 rfl) ?_
    refine lv_iload_n hx hb dX8_within_6 rfl (lv_at hl 2 rfl) ?_
    refine kt_icmp_gt (tgt := 14) hx hb dX8_within_7 (by decide) h1 h3 (fun c7 => ?_) (fun c7 => absurd c7 (by omega))
    refine lv_iconst (v := nI 0) hx hb dX8_within_14 (by decide) ?_
    exact ro_rz hx hb hr hlk dX8_within_15 rfl (rfl)
set_option maxHeartbeats 4000000 in
set_option maxRecDepth 100000 in
theorem c_X8_divisor (l : Launch) (D : va_G) (cy : Nat → ClassId) (ev : kz_V) (a b : Nat) (ha : a < 2 ^ 62) (hbb : b < 2 ^ 62) : Met l yX8_divisor (.code yX8_divisor cX8_divisor 10 (some .long) :: WB) { frames := 0, cells := 0, slots := 0, locals := 0 } (ro_Pc D cy ev [.long (lN a), .long (lN b)] []) (vp_Sl (fun r => r = lN (Nat.gcd a b))) 0 0 (fun _ => False) := by
  refine Met.ofW (cc := cX8_divisor) (maxL := 10) (ret := (some .long)) (by decide) rfl ?_
  intro p e s m args below meth c s₁ B hml hv
  obtain ⟨rfl, hP, hK, hE⟩ := hv
  have hx := B.exec
  have hb := B.bytes
  have hr := B.returns
  have hlk := B.notSynchronized
  have hts : ∀ w ∈ WB, w.before _ s = true := fun w h => atoms_spec B.pre w (List.mem_cons_of_mem _ h)
  have hown : s.vm.findClass RX8 = some m.cls := findClass_of_methodNamed B.named
  have hl := lv_entry ([.long (lN a), .long (lN b)]) (n := 10) (Nat.le_of_ble_eq_true rfl)
  rw [lg_entry_eq]
  generalize (lg_sl ([.long (lN a), .long (lN b)]) ++ List.replicate (10 - (lg_sl ([.long (lN a), .long (lN b)])).length) Slot.unset).toArray = ls at hl ⊢
  have hl : lv_has ls 10 [(0, .long (lN a)), (2, .long (lN b))] := hl
  refine lv_lload_n hx hb dX8_divisor_0 rfl (lv_at hl 0 rfl) ?_
  refine lv_lstore (lv' := [(4, .long (lN a)), (0, .long (lN a)), (2, .long (lN b))]) hx hb dX8_divisor_1 hl (by decide) rfl (fun ls hl => ?_)
  refine lv_lload_n hx hb dX8_divisor_3 rfl (lv_at hl 2 rfl) ?_
  refine lv_lstore (lv' := [(6, .long (lN b)), (4, .long (lN a)), (0, .long (lN a)), (2, .long (lN b))]) hx hb dX8_divisor_4 hl (by decide) rfl (fun ls hl => ?_)
  refine kn_loopM (α := Nat × Nat) (fun z : Nat × Nat => z.2) (fun z H9 l9 ls => H9 = s.heap ∧ l9 = [] ∧ (z.1 < 2 ^ 62) ∧ (z.2 < 2 ^ 62) ∧ (Nat.gcd z.1 z.2 = Nat.gcd a b) ∧ lv_has ls 10 [(0, .long (lN a)), (2, .long (lN b)), (4, .long (lN z.1)), (6, .long (lN z.2))]) ((a, b)) ⟨rfl, rfl, ha, hbb, rfl, lv_sub hl [2, 3, 1, 0] rfl⟩ (fun z H9 l9 ls hI ih6 => ?_)
  obtain ⟨rfl, rfl, hz1, hz2, hg, hl⟩ := hI
  refine lv_lload hx hb dX8_divisor_6 (lv_at hl 3 rfl) ?_
  refine lv_lconst (v := lN 0) hx hb dX8_divisor_8 (by decide) ?_
  refine kt_lcmp_eq (tgt := 31) hx hb dX8_divisor_9 dX8_divisor_10 (by decide) (pk_lT (by omega)) (pk_lT (by decide)) (fun c9 => ?_) (fun c9 => ?_)
  · skip
    refine lv_lload hx hb dX8_divisor_31 (lv_at hl 2 rfl) ?_
    exact ro_rl hx hb hr hlk dX8_divisor_33 (by rw [← hg, show z.2 = 0 by omega, Nat.gcd_zero_right])
  · skip
    refine lv_lload hx hb dX8_divisor_13 (lv_at hl 2 rfl) ?_
    refine lv_lload hx hb dX8_divisor_15 (lv_at hl 3 rfl) ?_
    refine kn_lrem hx hb dX8_divisor_17 (by omega) (by omega) (by omega) ?_
    refine lv_lstore (lv' := [(8, .long (lN (z.1 % z.2))), (0, .long (lN a)), (2, .long (lN b)), (4, .long (lN z.1)), (6, .long (lN z.2))]) hx hb dX8_divisor_18 hl (by decide) rfl (fun ls hl => ?_)
    refine lv_lload hx hb dX8_divisor_20 (lv_at hl 4 rfl) ?_
    refine lv_lstore (lv' := [(4, .long (lN z.2)), (8, .long (lN (z.1 % z.2))), (0, .long (lN a)), (2, .long (lN b)), (6, .long (lN z.2))]) hx hb dX8_divisor_22 hl (by decide) rfl (fun ls hl => ?_)
    refine lv_lload hx hb dX8_divisor_24 (lv_at hl 1 rfl) ?_
    refine lv_lstore (lv' := [(6, .long (lN (z.1 % z.2))), (4, .long (lN z.2)), (8, .long (lN (z.1 % z.2))), (0, .long (lN a)), (2, .long (lN b))]) hx hb dX8_divisor_26 hl (by decide) rfl (fun ls hl => ?_)
    refine lv_goto (tgt := 6) hx hb dX8_divisor_28 (by decide) ?_
    exact ih6 ((z.2, z.1 % z.2)) _ _ _ (Nat.mod_lt _ (by omega)) ⟨rfl, rfl, hz2, (show z.1 % z.2 < 2 ^ 62 from Nat.lt_trans (Nat.mod_lt _ (by omega)) hz2), (gcd_next _ _).symm.trans hg, lv_sub hl [3, 4, 1, 0] rfl⟩
set_option maxHeartbeats 4000000 in
set_option maxRecDepth 100000 in
theorem c_X8_lowest (l : Launch) (D : va_G) (cy : Nat → ClassId) (ev : kz_V) (a b w : Nat) (ha : a < 2 ^ 62) (hb0 : 0 < b) (hbb : b < 2 ^ 62) (hw : w < 2 ^ 31) : Met l yX8_lowest (.code yX8_lowest cX8_lowest 7 (some .long) :: WB) { frames := 1, cells := 0, slots := 0, locals := 29 } (ro_Pc D cy ev [.long (lN a), .long (lN b), .int (nI w)] []) (vp_Sl (fun r => r = lN (lowT a b w))) 0 0 (fun _ => False) := by
  refine Met.ofW (cc := cX8_lowest) (maxL := 7) (ret := (some .long)) (by decide) rfl ?_
  intro p e s m args below meth c s₁ B hml hv
  obtain ⟨rfl, hP, hK, hE⟩ := hv
  have hx := B.exec
  have hb := B.bytes
  have hr := B.returns
  have hlk := B.notSynchronized
  have hts : ∀ w ∈ WB, w.before _ s = true := fun w h => atoms_spec B.pre w (List.mem_cons_of_mem _ h)
  have hown : s.vm.findClass RX8 = some m.cls := findClass_of_methodNamed B.named
  have hl := lv_entry ([.long (lN a), .long (lN b), .int (nI w)]) (n := 7) (Nat.le_of_ble_eq_true rfl)
  rw [lg_entry_eq]
  generalize (lg_sl ([.long (lN a), .long (lN b), .int (nI w)]) ++ List.replicate (7 - (lg_sl ([.long (lN a), .long (lN b), .int (nI w)])).length) Slot.unset).toArray = ls at hl ⊢
  have hl : lv_has ls 7 [(0, .long (lN a)), (2, .long (lN b)), (4, .int (nI w))] := hl
  refine lv_lload_n hx hb dX8_lowest_0 rfl (lv_at hl 0 rfl) ?_
  refine lv_lload_n hx hb dX8_lowest_1 rfl (lv_at hl 1 rfl) ?_
  refine ro_Sl (As := [.long (lN a), .long (lN b)]) (rest := []) (v := lN (Nat.gcd a b)) ⟨hx, hb, hml, hown, hts⟩ (c_X8_divisor l D cy ev a b (by omega) (by omega)) (kz_cwS 2 hts wm_491 wm_489 wm_490 wm_5 rfl rfl (by decide +kernel) ⟨Nat.le_of_ble_eq_true rfl, Nat.le_of_ble_eq_true rfl⟩) hK hE (fun k q h => by simp at h) rfl hl.1 rfl (Nat.le_of_ble_eq_true rfl) dX8_lowest_2 ⟨Nat.le_of_ble_eq_true rfl, Nat.le_of_ble_eq_true rfl⟩ ?_
  have hg0 : 0 < Nat.gcd a b := Nat.gcd_pos_of_pos_right a hb0
  have hg1 : Nat.gcd a b ≤ b := Nat.gcd_le_right a hb0
  refine lv_lstore (lv' := [(5, .long (lN (Nat.gcd a b))), (0, .long (lN a)), (2, .long (lN b)), (4, .int (nI w))]) hx hb dX8_lowest_5 hl (by decide) rfl (fun ls hl => ?_)
  refine lv_iload hx hb dX8_lowest_7 (lv_at hl 3 rfl) ?_
  refine kt_if_ne (tgt := 19) hx hb dX8_lowest_9 (by decide) (nI_toInt (by omega)) (fun c9 => ?_) (fun c9 => ?_)
  · skip
    refine lv_lload_n hx hb dX8_lowest_19 rfl (lv_at hl 2 rfl) ?_
    refine lv_lload hx hb dX8_lowest_20 (lv_at hl 0 rfl) ?_
    refine kn_ldiv hx hb dX8_lowest_22 (by omega) (by omega) (by omega) ?_
    exact ro_rl hx hb hr hlk dX8_lowest_23 (by unfold lowT; rw [if_neg (by omega)])
  · skip
    refine lv_lload_n hx hb dX8_lowest_12 rfl (lv_at hl 1 rfl) ?_
    refine lv_lload hx hb dX8_lowest_13 (lv_at hl 0 rfl) ?_
    refine kn_ldiv hx hb dX8_lowest_15 (by omega) (by omega) (by omega) ?_
    refine lv_goto (tgt := 23) hx hb dX8_lowest_16 (by decide) ?_
    exact ro_rl hx hb hr hlk dX8_lowest_23 (by unfold lowT; rw [if_pos (by omega)])
set_option maxHeartbeats 4000000 in
set_option maxRecDepth 100000 in
theorem c_X8_kindBy (l : Launch) (D : va_G) (cy : Nat → ClassId) (ev : kz_V) (ch : Nat) (hc : ch ≤ 126) : Met l yX8_kindBy (.code yX8_kindBy cX8_kindBy 1 (some .int) :: WB) { frames := 0, cells := 0, slots := 0, locals := 0 } (ro_Pc D cy ev [.int (nI ch)] []) (vp_Si (fun r => r = kI ch)) 0 0 (fun _ => False) := by
  refine Met.ofW (cc := cX8_kindBy) (maxL := 1) (ret := (some .int)) (by decide) rfl ?_
  intro p e s m args below meth c s₁ B hml hv
  obtain ⟨rfl, hP, hK, hE⟩ := hv
  have hx := B.exec
  have hb := B.bytes
  have hr := B.returns
  have hlk := B.notSynchronized
  have hts : ∀ w ∈ WB, w.before _ s = true := fun w h => atoms_spec B.pre w (List.mem_cons_of_mem _ h)
  have hown : s.vm.findClass RX8 = some m.cls := findClass_of_methodNamed B.named
  have hl := lv_entry ([.int (nI ch)]) (n := 1) (Nat.le_of_ble_eq_true rfl)
  rw [lg_entry_eq]
  generalize (lg_sl ([.int (nI ch)]) ++ List.replicate (1 - (lg_sl ([.int (nI ch)])).length) Slot.unset).toArray = ls at hl ⊢
  have hl : lv_has ls 1 [(0, .int (nI ch))] := hl
  refine lv_iload_n hx hb dX8_kindBy_0 rfl (lv_at hl 0 rfl) ?_
  rcases (show ch = 104 ∨ ch = 112 ∨ ch = 114 ∨ ch = 116 ∨ ch = 119 ∨ (ch ≠ 104 ∧ ch ≠ 112 ∧ ch ≠ 114 ∧ ch ≠ 116 ∧ ch ≠ 119) by omega) with rfl | rfl | rfl | rfl | rfl | hno
  · skip
    refine lv_lookup (tgt := 54) (off := 53) hx hb dX8_kindBy_1 (by decide) (by decide) (by decide) ?_
    refine lv_iconst (v := nI 1) hx hb dX8_kindBy_54 (by decide) ?_
    exact ro_ri hx hb hr hlk dX8_kindBy_55 (rfl)
  · skip
    refine lv_lookup (tgt := 52) (off := 51) hx hb dX8_kindBy_1 (by decide) (by decide) (by decide) ?_
    refine lv_iconst (v := nI 0) hx hb dX8_kindBy_52 (by decide) ?_
    exact ro_ri hx hb hr hlk dX8_kindBy_53 (rfl)
  · skip
    refine lv_lookup (tgt := 58) (off := 57) hx hb dX8_kindBy_1 (by decide) (by decide) (by decide) ?_
    refine lv_iconst (v := nI 3) hx hb dX8_kindBy_58 (by decide) ?_
    exact ro_ri hx hb hr hlk dX8_kindBy_59 (rfl)
  · skip
    refine lv_lookup (tgt := 60) (off := 59) hx hb dX8_kindBy_1 (by decide) (by decide) (by decide) ?_
    refine lv_iconst (v := nI 4) hx hb dX8_kindBy_60 (by decide) ?_
    exact ro_ri hx hb hr hlk dX8_kindBy_61 (rfl)
  · skip
    refine lv_lookup (tgt := 56) (off := 55) hx hb dX8_kindBy_1 (by decide) (by decide) (by decide) ?_
    refine lv_iconst (v := nI 2) hx hb dX8_kindBy_56 (by decide) ?_
    exact ro_ri hx hb hr hlk dX8_kindBy_57 (rfl)
  · skip
    refine lv_lookup (tgt := 62) (off := 61) hx hb dX8_kindBy_1 (by decide) (by rw [nI_toInt (by omega)]; simp only [Op.lookupswitch.offset_cons]; rw [if_neg (by omega), if_neg (by omega), if_neg (by omega), if_neg (by omega), if_neg (by omega)]; rfl) (by decide) ?_
    refine lv_iconst (v := (-1)) hx hb dX8_kindBy_62 (by decide) ?_
    exact ro_ri hx hb hr hlk dX8_kindBy_63 (by unfold kI; rw [if_neg (by omega), if_neg (by omega), if_neg (by omega), if_neg (by omega), if_neg (by omega)])
set_option maxHeartbeats 4000000 in
set_option maxRecDepth 100000 in
theorem c_X8_isOne_t (l : Launch) (D : va_G) (cy : Nat → ClassId) (ev : kz_V) (am : Nat → Nat) (g : Nat → Nat) (q : Nat → Nat → Nat) (kb : Bool) (sc : MSc) (hI : YI g q) (j : Nat) (hj : j < g 0) : Met l yX8_isOne (.code yX8_isOne cX8_isOne 2 (some .boolean) :: WB) { frames := 1, cells := 0, slots := 0, locals := 22 } (ro_Pc D cy ev [.ref (am 0), .int (nI j)] [zO (am 0) 8 [.int (nI (g 4)), .int (nI (g 0)), .int (nI (g 1)), .ref (am 1), .ref (am 2), .ref (am 3), .ref (am 4), .ref (am 5), .ref (am 6), .ref (am 7), .int (nI (g 9)), .int (nI (g 2)), .ref (am 8), .ref (am 9), .ref (am 10), .ref (am 11), .int (nI (g 5)), .int (nI (g 3)), .ref (am 12), .int (bI sc.1), .int (nI sc.2.1), .ref (am 13), .int sc.2.2.1, .long sc.2.2.2.1, .int (bI kb), .int (nI (g 6)), .int (nI (g 7)), .int (nI (g 10)), .int (nI (g 8)), .ref (am 14), .ref (am 15), .ref (am 16), .ref (am 17), .ref (am 18), .ref (am 19), .ref (am 20), .ref (am 21), .long sc.2.2.2.2.1], zI cy (am 1) 4 (fun i9 => nI ((q 0) i9)), zI cy (am 2) 4 (fun i9 => nI ((q 1) i9)), zI cy (am 3) 4 (fun i9 => nI ((q 2) i9)), zI cy (am 4) 4 (fun i9 => nI ((q 3) i9)), zI cy (am 5) 4 (fun i9 => nI ((q 5) i9)), zI cy (am 6) 4 (fun i9 => nI ((q 6) i9)), zJ cy (am 7) 4 (fun i9 => lN ((q 4) i9)), zI cy (am 8) 6 (fun i9 => nI ((q 12) i9)), zI cy (am 9) 6 (fun i9 => nI ((q 13) i9)), zI cy (am 10) 6 (fun i9 => nI ((q 14) i9)), zI cy (am 11) 6 (fun i9 => nI ((q 15) i9)), zB cy (am 12) 18 (fun i9 => nI ((q 7) i9)), zJ cy (am 13) 16 (fun i9 => lN (sc.2.2.2.2.2 i9)), zI cy (am 14) 4 (fun i9 => nI ((q 8) i9)), zI cy (am 15) 4 (fun i9 => nI ((q 10) i9)), zI cy (am 16) 4 (fun i9 => nI ((q 11) i9)), zJ cy (am 17) 4 (fun i9 => lN ((q 9) i9)), zI cy (am 18) 6 (fun i9 => nI ((q 16) i9)), zI cy (am 19) 6 (fun i9 => nI ((q 17) i9)), zI cy (am 20) 6 (fun i9 => nI ((q 18) i9)), zI cy (am 21) 6 (fun i9 => nI ((q 19) i9))]) (vp_Si (fun r => r = bI true)) 0 0 (fun _ => False) := by
  refine Met.ofW (cc := cX8_isOne) (maxL := 2) (ret := (some .boolean)) (by decide) rfl ?_
  intro p e s m args below meth c s₁ B hml hv
  obtain ⟨rfl, hP, hK, hE⟩ := hv
  have hx := B.exec
  have hb := B.bytes
  have hr := B.returns
  have hlk := B.notSynchronized
  have hts : ∀ w ∈ WB, w.before _ s = true := fun w h => atoms_spec B.pre w (List.mem_cons_of_mem _ h)
  have hown : s.vm.findClass RX8 = some m.cls := findClass_of_methodNamed B.named
  have hl := lv_entry ([.ref (am 0), .int (nI j)]) (n := 2) (Nat.le_of_ble_eq_true rfl)
  rw [lg_entry_eq]
  generalize (lg_sl ([.ref (am 0), .int (nI j)]) ++ List.replicate (2 - (lg_sl ([.ref (am 0), .int (nI j)])).length) Slot.unset).toArray = ls at hl ⊢
  have hl : lv_has ls 2 [(0, .ref (am 0)), (1, .int (nI j))] := hl
  have hn4 := hI.n
  have hn2 := hI.n2
  have hdry := hI.dry
  refine lv_iload_n hx hb dX8_isOne_0 rfl (lv_at hl 1 rfl) ?_
  refine lv_iconst (v := nI 0) hx hb dX8_isOne_1 (by decide) ?_
  refine lv_aload_n hx hb dX8_isOne_2 rfl (lv_at hl 0 rfl) ?_
  refine va_get (ci := 8) (C := RX8) (T := TX8) (N := 38) hx hb hts inX8 hown hK hP 0 rfl rfl 1 (by decide) (hts _ wm_309) (fun _ h9 => h9) rfl dX8_isOne_3 ?_
  refine lv_iconst (v := nI 1) hx hb dX8_isOne_6 (by decide) ?_
  refine lv_isub hx hb dX8_isOne_7 ?_
  refine ro_Si (As := [.int (nI j), .int (nI 0), .int ((nI (g 0)) - (nI 1))]) (rest := []) (v := bI true) ⟨hx, hb, hml, hown, hts⟩ (c_X8_within_t l D cy ev (nI j) (nI 0) ((nI (g 0)) - (nI 1)) _ _ _ (nI_toInt (by omega)) (nI_toInt (by decide)) (pk_sub_toInt (by omega) (by decide)) (by omega)) (kz_cwS 3 hts wm_84 wm_82 wm_83 wm_5 rfl rfl (by decide +kernel) ⟨Nat.le_of_ble_eq_true rfl, Nat.le_of_ble_eq_true rfl⟩) hK hE (fun k q h => by simp at h) rfl hl.1 rfl (Nat.le_of_ble_eq_true rfl) dX8_isOne_8 ⟨Nat.le_of_ble_eq_true rfl, Nat.le_of_ble_eq_true rfl⟩ ?_
  exact ro_rz hx hb hr hlk dX8_isOne_11 (bI_nar true) (rfl)
set_option maxHeartbeats 4000000 in
set_option maxRecDepth 100000 in
theorem c_X8_isOne_n (l : Launch) (D : va_G) (cy : Nat → ClassId) (ev : kz_V) (am : Nat → Nat) (g : Nat → Nat) (q : Nat → Nat → Nat) (kb : Bool) (sc : MSc) (hI : YI g q) (x : Int32) (hx0 : ix (g 0) x = none) : Met l yX8_isOne (.code yX8_isOne cX8_isOne 2 (some .boolean) :: WB) { frames := 1, cells := 0, slots := 0, locals := 22 } (ro_Pc D cy ev [.ref (am 0), .int x] [zO (am 0) 8 [.int (nI (g 4)), .int (nI (g 0)), .int (nI (g 1)), .ref (am 1), .ref (am 2), .ref (am 3), .ref (am 4), .ref (am 5), .ref (am 6), .ref (am 7), .int (nI (g 9)), .int (nI (g 2)), .ref (am 8), .ref (am 9), .ref (am 10), .ref (am 11), .int (nI (g 5)), .int (nI (g 3)), .ref (am 12), .int (bI sc.1), .int (nI sc.2.1), .ref (am 13), .int sc.2.2.1, .long sc.2.2.2.1, .int (bI kb), .int (nI (g 6)), .int (nI (g 7)), .int (nI (g 10)), .int (nI (g 8)), .ref (am 14), .ref (am 15), .ref (am 16), .ref (am 17), .ref (am 18), .ref (am 19), .ref (am 20), .ref (am 21), .long sc.2.2.2.2.1], zI cy (am 1) 4 (fun i9 => nI ((q 0) i9)), zI cy (am 2) 4 (fun i9 => nI ((q 1) i9)), zI cy (am 3) 4 (fun i9 => nI ((q 2) i9)), zI cy (am 4) 4 (fun i9 => nI ((q 3) i9)), zI cy (am 5) 4 (fun i9 => nI ((q 5) i9)), zI cy (am 6) 4 (fun i9 => nI ((q 6) i9)), zJ cy (am 7) 4 (fun i9 => lN ((q 4) i9)), zI cy (am 8) 6 (fun i9 => nI ((q 12) i9)), zI cy (am 9) 6 (fun i9 => nI ((q 13) i9)), zI cy (am 10) 6 (fun i9 => nI ((q 14) i9)), zI cy (am 11) 6 (fun i9 => nI ((q 15) i9)), zB cy (am 12) 18 (fun i9 => nI ((q 7) i9)), zJ cy (am 13) 16 (fun i9 => lN (sc.2.2.2.2.2 i9)), zI cy (am 14) 4 (fun i9 => nI ((q 8) i9)), zI cy (am 15) 4 (fun i9 => nI ((q 10) i9)), zI cy (am 16) 4 (fun i9 => nI ((q 11) i9)), zJ cy (am 17) 4 (fun i9 => lN ((q 9) i9)), zI cy (am 18) 6 (fun i9 => nI ((q 16) i9)), zI cy (am 19) 6 (fun i9 => nI ((q 17) i9)), zI cy (am 20) 6 (fun i9 => nI ((q 18) i9)), zI cy (am 21) 6 (fun i9 => nI ((q 19) i9))]) (vp_Si (fun r => r = bI false)) 0 0 (fun _ => False) := by
  refine Met.ofW (cc := cX8_isOne) (maxL := 2) (ret := (some .boolean)) (by decide) rfl ?_
  intro p e s m args below meth c s₁ B hml hv
  obtain ⟨rfl, hP, hK, hE⟩ := hv
  have hx := B.exec
  have hb := B.bytes
  have hr := B.returns
  have hlk := B.notSynchronized
  have hts : ∀ w ∈ WB, w.before _ s = true := fun w h => atoms_spec B.pre w (List.mem_cons_of_mem _ h)
  have hown : s.vm.findClass RX8 = some m.cls := findClass_of_methodNamed B.named
  have hl := lv_entry ([.ref (am 0), .int x]) (n := 2) (Nat.le_of_ble_eq_true rfl)
  rw [lg_entry_eq]
  generalize (lg_sl ([.ref (am 0), .int x]) ++ List.replicate (2 - (lg_sl ([.ref (am 0), .int x])).length) Slot.unset).toArray = ls at hl ⊢
  have hl : lv_has ls 2 [(0, .ref (am 0)), (1, .int x)] := hl
  have hn4 := hI.n
  have hn2 := hI.n2
  have hdry := hI.dry
  have hxn := ix_none hx0
  refine lv_iload_n hx hb dX8_isOne_0 rfl (lv_at hl 1 rfl) ?_
  refine lv_iconst (v := nI 0) hx hb dX8_isOne_1 (by decide) ?_
  refine lv_aload_n hx hb dX8_isOne_2 rfl (lv_at hl 0 rfl) ?_
  refine va_get (ci := 8) (C := RX8) (T := TX8) (N := 38) hx hb hts inX8 hown hK hP 0 rfl rfl 1 (by decide) (hts _ wm_309) (fun _ h9 => h9) rfl dX8_isOne_3 ?_
  refine lv_iconst (v := nI 1) hx hb dX8_isOne_6 (by decide) ?_
  refine lv_isub hx hb dX8_isOne_7 ?_
  refine ro_Si (As := [.int x, .int (nI 0), .int ((nI (g 0)) - (nI 1))]) (rest := []) (v := bI false) ⟨hx, hb, hml, hown, hts⟩ (c_X8_within_f l D cy ev (x) (nI 0) ((nI (g 0)) - (nI 1)) _ _ _ rfl (nI_toInt (by decide)) (pk_sub_toInt (by omega) (by decide)) (by omega)) (kz_cwS 3 hts wm_84 wm_82 wm_83 wm_5 rfl rfl (by decide +kernel) ⟨Nat.le_of_ble_eq_true rfl, Nat.le_of_ble_eq_true rfl⟩) hK hE (fun k q h => by simp at h) rfl hl.1 rfl (Nat.le_of_ble_eq_true rfl) dX8_isOne_8 ⟨Nat.le_of_ble_eq_true rfl, Nat.le_of_ble_eq_true rfl⟩ ?_
  exact ro_rz hx hb hr hlk dX8_isOne_11 (bI_nar false) (rfl)
set_option maxHeartbeats 4000000 in
set_option maxRecDepth 100000 in
theorem c_X8_dreads (l : Launch) (D : va_G) (cy : Nat → ClassId) (ev : kz_V) (am : Nat → Nat) (g : Nat → Nat) (q : Nat → Nat → Nat) (kb : Bool) (sc : MSc) (hI : YI g q) (j : Nat) (hj : j < g 0) (did : Bool) : Met l yX8_dreads (.code yX8_dreads cX8_dreads 4 (some .int) :: WB) { frames := 0, cells := 0, slots := 0, locals := 0 } (ro_Pc D cy ev [.ref (am 0), .int (nI j), .int (bI did)] [zO (am 0) 8 [.int (nI (g 4)), .int (nI (g 0)), .int (nI (g 1)), .ref (am 1), .ref (am 2), .ref (am 3), .ref (am 4), .ref (am 5), .ref (am 6), .ref (am 7), .int (nI (g 9)), .int (nI (g 2)), .ref (am 8), .ref (am 9), .ref (am 10), .ref (am 11), .int (nI (g 5)), .int (nI (g 3)), .ref (am 12), .int (bI sc.1), .int (nI sc.2.1), .ref (am 13), .int sc.2.2.1, .long sc.2.2.2.1, .int (bI kb), .int (nI (g 6)), .int (nI (g 7)), .int (nI (g 10)), .int (nI (g 8)), .ref (am 14), .ref (am 15), .ref (am 16), .ref (am 17), .ref (am 18), .ref (am 19), .ref (am 20), .ref (am 21), .long sc.2.2.2.2.1], zI cy (am 1) 4 (fun i9 => nI ((q 0) i9)), zI cy (am 2) 4 (fun i9 => nI ((q 1) i9)), zI cy (am 3) 4 (fun i9 => nI ((q 2) i9)), zI cy (am 4) 4 (fun i9 => nI ((q 3) i9)), zI cy (am 5) 4 (fun i9 => nI ((q 5) i9)), zI cy (am 6) 4 (fun i9 => nI ((q 6) i9)), zJ cy (am 7) 4 (fun i9 => lN ((q 4) i9)), zI cy (am 8) 6 (fun i9 => nI ((q 12) i9)), zI cy (am 9) 6 (fun i9 => nI ((q 13) i9)), zI cy (am 10) 6 (fun i9 => nI ((q 14) i9)), zI cy (am 11) 6 (fun i9 => nI ((q 15) i9)), zB cy (am 12) 18 (fun i9 => nI ((q 7) i9)), zJ cy (am 13) 16 (fun i9 => lN (sc.2.2.2.2.2 i9)), zI cy (am 14) 4 (fun i9 => nI ((q 8) i9)), zI cy (am 15) 4 (fun i9 => nI ((q 10) i9)), zI cy (am 16) 4 (fun i9 => nI ((q 11) i9)), zJ cy (am 17) 4 (fun i9 => lN ((q 9) i9)), zI cy (am 18) 6 (fun i9 => nI ((q 16) i9)), zI cy (am 19) 6 (fun i9 => nI ((q 17) i9)), zI cy (am 20) 6 (fun i9 => nI ((q 18) i9)), zI cy (am 21) 6 (fun i9 => nI ((q 19) i9))]) (vp_Si (fun r => r = nI (dn (q 0 j) (q 1 j) did))) 0 0 (fun _ => False) := by
  refine Met.ofW (cc := cX8_dreads) (maxL := 4) (ret := (some .int)) (by decide) rfl ?_
  intro p e s m args below meth c s₁ B hml hv
  obtain ⟨rfl, hP, hK, hE⟩ := hv
  have hx := B.exec
  have hb := B.bytes
  have hr := B.returns
  have hlk := B.notSynchronized
  have hts : ∀ w ∈ WB, w.before _ s = true := fun w h => atoms_spec B.pre w (List.mem_cons_of_mem _ h)
  have hown : s.vm.findClass RX8 = some m.cls := findClass_of_methodNamed B.named
  have hl := lv_entry ([.ref (am 0), .int (nI j), .int (bI did)]) (n := 4) (Nat.le_of_ble_eq_true rfl)
  rw [lg_entry_eq]
  generalize (lg_sl ([.ref (am 0), .int (nI j), .int (bI did)]) ++ List.replicate (4 - (lg_sl ([.ref (am 0), .int (nI j), .int (bI did)])).length) Slot.unset).toArray = ls at hl ⊢
  have hl : lv_has ls 4 [(0, .ref (am 0)), (1, .int (nI j)), (2, .int (bI did))] := hl
  have hn4 := hI.n
  have hn2 := hI.n2
  have hdry := hI.dry
  have hper := hI.per j hj
  refine lv_aload_n hx hb dX8_dreads_0 rfl (lv_at hl 0 rfl) ?_
  refine va_get (ci := 8) (C := RX8) (T := TX8) (N := 38) hx hb hts inX8 hown hK hP 0 rfl rfl 4 (by decide) (hts _ wm_46) (fun _ h9 => h9) rfl dX8_dreads_1 ?_
  refine lv_iload_n hx hb dX8_dreads_4 rfl (lv_at hl 1 rfl) ?_
  refine kn_iald (v := nI ((q 1) j)) hx hb hK hP 2 rfl (by omega) (by decide) rfl dX8_dreads_5 ?_
  refine lv_istore_n (lv' := [(3, .int (nI ((q 1) j))), (0, .ref (am 0)), (1, .int (nI j)), (2, .int (bI did))]) hx hb dX8_dreads_6 rfl hl (by decide) rfl (fun ls hl => ?_)
  refine lv_aload_n hx hb dX8_dreads_7 rfl (lv_at hl 1 rfl) ?_
  refine va_get (ci := 8) (C := RX8) (T := TX8) (N := 38) hx hb hts inX8 hown hK hP 0 rfl rfl 3 (by decide) (hts _ wm_45) (fun _ h9 => h9) rfl dX8_dreads_8 ?_
  refine lv_iload_n hx hb dX8_dreads_11 rfl (lv_at hl 2 rfl) ?_
  refine kn_iald (v := nI ((q 0) j)) hx hb hK hP 1 rfl (by omega) (by decide) rfl dX8_dreads_12 ?_
  obtain ⟨kk, hkk⟩ : ∃ kk, kk = q 0 j := ⟨_, rfl⟩
  have hk5 : kk < 5 := by omega
  refine kn_as (st' := [.int (nI kk)]) (by rw [hkk]) ?_
  rcases (show kk = 0 ∨ kk = 1 ∨ kk = 2 ∨ kk = 3 ∨ kk = 4 by omega) with rfl | rfl | rfl | rfl | rfl
  · skip
    refine lv_tableOut (tgt := 74) hx hb dX8_dreads_13 (by decide) (by decide) ?_
    refine lv_iload_n hx hb dX8_dreads_74 rfl (lv_at hl 0 rfl) ?_
    refine lv_iload_n hx hb dX8_dreads_75 rfl (lv_at hl 3 rfl) ?_
    refine kt_ifB_eq (tgt := 83) hx hb dX8_dreads_76 (by decide) (fun c76 => ?_) (fun c76 => ?_)
    · skip
      refine lv_iconst (v := nI 0) hx hb dX8_dreads_83 (by decide) ?_
      refine kn_iadd hx hb dX8_dreads_84 ?_
      exact ro_ri hx hb hr hlk dX8_dreads_85 (by rw [← hkk, c76]; rfl)
    · skip
      refine lv_iconst (v := nI 3) hx hb dX8_dreads_79 (by decide) ?_
      refine lv_goto (tgt := 84) hx hb dX8_dreads_80 (by decide) ?_
      refine kn_iadd hx hb dX8_dreads_84 ?_
      exact ro_ri hx hb hr hlk dX8_dreads_85 (by rw [← hkk, c76]; rfl)
  · skip
    refine lv_tableIn (tgt := 44) (off := 31) hx hb dX8_dreads_13 (by decide) (by decide) rfl (by decide) ?_
    refine lv_iload_n hx hb dX8_dreads_44 rfl (lv_at hl 0 rfl) ?_
    exact ro_ri hx hb hr hlk dX8_dreads_45 (by rw [← hkk]; rfl)
  · skip
    refine lv_tableIn (tgt := 46) (off := 33) hx hb dX8_dreads_13 (by decide) (by decide) rfl (by decide) ?_
    refine lv_iload_n hx hb dX8_dreads_46 rfl (lv_at hl 0 rfl) ?_
    refine lv_iconst (v := nI 3) hx hb dX8_dreads_47 (by decide) ?_
    refine kn_iadd hx hb dX8_dreads_48 ?_
    exact ro_ri hx hb hr hlk dX8_dreads_49 (by rw [← hkk]; rfl)
  · skip
    refine lv_tableIn (tgt := 50) (off := 37) hx hb dX8_dreads_13 (by decide) (by decide) rfl (by decide) ?_
    refine lv_iload_n hx hb dX8_dreads_50 rfl (lv_at hl 0 rfl) ?_
    refine lv_iconst (v := nI 2) hx hb dX8_dreads_51 (by decide) ?_
    refine kn_idiv hx hb dX8_dreads_52 (by omega) (by omega) (by omega) ?_
    refine lv_iload_n hx hb dX8_dreads_53 rfl (lv_at hl 3 rfl) ?_
    refine kt_ifB_eq (tgt := 61) hx hb dX8_dreads_54 (by decide) (fun c54 => ?_) (fun c54 => ?_)
    · skip
      refine lv_iconst (v := nI 0) hx hb dX8_dreads_61 (by decide) ?_
      refine kn_iadd hx hb dX8_dreads_62 ?_
      exact ro_ri hx hb hr hlk dX8_dreads_63 (by rw [← hkk, c54]; rfl)
    · skip
      refine lv_iconst (v := nI 3) hx hb dX8_dreads_57 (by decide) ?_
      refine lv_goto (tgt := 62) hx hb dX8_dreads_58 (by decide) ?_
      refine kn_iadd hx hb dX8_dreads_62 ?_
      exact ro_ri hx hb hr hlk dX8_dreads_63 (by rw [← hkk, c54]; rfl)
  · skip
    refine lv_tableIn (tgt := 64) (off := 51) hx hb dX8_dreads_13 (by decide) (by decide) rfl (by decide) ?_
    refine lv_iload_n hx hb dX8_dreads_64 rfl (lv_at hl 3 rfl) ?_
    refine kt_ifB_eq (tgt := 72) hx hb dX8_dreads_65 (by decide) (fun c65 => ?_) (fun c65 => ?_)
    · skip
      refine lv_iload_n hx hb dX8_dreads_72 rfl (lv_at hl 0 rfl) ?_
      exact ro_ri hx hb hr hlk dX8_dreads_73 (by rw [← hkk, c65]; rfl)
    · skip
      refine lv_iconst (v := nI 0) hx hb dX8_dreads_68 (by decide) ?_
      refine lv_goto (tgt := 73) hx hb dX8_dreads_69 (by decide) ?_
      exact ro_ri hx hb hr hlk dX8_dreads_73 (by rw [← hkk, c65]; rfl)
set_option maxHeartbeats 4000000 in
set_option maxRecDepth 100000 in
theorem c_X8_tenthsBy (l : Launch) (D : va_G) (cy : Nat → ClassId) (ev : kz_V) (am : Nat → Nat) (g : Nat → Nat) (q : Nat → Nat → Nat) (kb : Bool) (sc : MSc) (hI : YI g q) (j : Nat) (hj : j < g 0) (did : Bool) (y t : Nat) (hy : y ≤ 100) (ht : t ≤ 100) : Met l yX8_tenthsBy (.code yX8_tenthsBy cX8_tenthsBy 6 (some .int) :: WB) { frames := 1, cells := 0, slots := 0, locals := 23 } (ro_Pc D cy ev [.ref (am 0), .int (nI j), .int (bI did), .int (nI y), .int (nI t)] [zO (am 0) 8 [.int (nI (g 4)), .int (nI (g 0)), .int (nI (g 1)), .ref (am 1), .ref (am 2), .ref (am 3), .ref (am 4), .ref (am 5), .ref (am 6), .ref (am 7), .int (nI (g 9)), .int (nI (g 2)), .ref (am 8), .ref (am 9), .ref (am 10), .ref (am 11), .int (nI (g 5)), .int (nI (g 3)), .ref (am 12), .int (bI sc.1), .int (nI sc.2.1), .ref (am 13), .int sc.2.2.1, .long sc.2.2.2.1, .int (bI kb), .int (nI (g 6)), .int (nI (g 7)), .int (nI (g 10)), .int (nI (g 8)), .ref (am 14), .ref (am 15), .ref (am 16), .ref (am 17), .ref (am 18), .ref (am 19), .ref (am 20), .ref (am 21), .long sc.2.2.2.2.1], zI cy (am 1) 4 (fun i9 => nI ((q 0) i9)), zI cy (am 2) 4 (fun i9 => nI ((q 1) i9)), zI cy (am 3) 4 (fun i9 => nI ((q 2) i9)), zI cy (am 4) 4 (fun i9 => nI ((q 3) i9)), zI cy (am 5) 4 (fun i9 => nI ((q 5) i9)), zI cy (am 6) 4 (fun i9 => nI ((q 6) i9)), zJ cy (am 7) 4 (fun i9 => lN ((q 4) i9)), zI cy (am 8) 6 (fun i9 => nI ((q 12) i9)), zI cy (am 9) 6 (fun i9 => nI ((q 13) i9)), zI cy (am 10) 6 (fun i9 => nI ((q 14) i9)), zI cy (am 11) 6 (fun i9 => nI ((q 15) i9)), zB cy (am 12) 18 (fun i9 => nI ((q 7) i9)), zJ cy (am 13) 16 (fun i9 => lN (sc.2.2.2.2.2 i9)), zI cy (am 14) 4 (fun i9 => nI ((q 8) i9)), zI cy (am 15) 4 (fun i9 => nI ((q 10) i9)), zI cy (am 16) 4 (fun i9 => nI ((q 11) i9)), zJ cy (am 17) 4 (fun i9 => lN ((q 9) i9)), zI cy (am 18) 6 (fun i9 => nI ((q 16) i9)), zI cy (am 19) 6 (fun i9 => nI ((q 17) i9)), zI cy (am 20) 6 (fun i9 => nI ((q 18) i9)), zI cy (am 21) 6 (fun i9 => nI ((q 19) i9))]) (vp_Si (fun r => r = nI (tn (dn (q 0 j) (q 1 j) did) y t))) 0 0 (fun _ => False) := by
  refine Met.ofW (cc := cX8_tenthsBy) (maxL := 6) (ret := (some .int)) (by decide) rfl ?_
  intro p e s m args below meth c s₁ B hml hv
  obtain ⟨rfl, hP, hK, hE⟩ := hv
  have hx := B.exec
  have hb := B.bytes
  have hr := B.returns
  have hlk := B.notSynchronized
  have hts : ∀ w ∈ WB, w.before _ s = true := fun w h => atoms_spec B.pre w (List.mem_cons_of_mem _ h)
  have hown : s.vm.findClass RX8 = some m.cls := findClass_of_methodNamed B.named
  have hl := lv_entry ([.ref (am 0), .int (nI j), .int (bI did), .int (nI y), .int (nI t)]) (n := 6) (Nat.le_of_ble_eq_true rfl)
  rw [lg_entry_eq]
  generalize (lg_sl ([.ref (am 0), .int (nI j), .int (bI did), .int (nI y), .int (nI t)]) ++ List.replicate (6 - (lg_sl ([.ref (am 0), .int (nI j), .int (bI did), .int (nI y), .int (nI t)])).length) Slot.unset).toArray = ls at hl ⊢
  have hl : lv_has ls 6 [(0, .ref (am 0)), (1, .int (nI j)), (2, .int (bI did)), (3, .int (nI y)), (4, .int (nI t))] := hl
  have hn4 := hI.n
  have hn2 := hI.n2
  have hdry := hI.dry
  have hper := hI.per j hj
  refine lv_aload_n hx hb dX8_tenthsBy_0 rfl (lv_at hl 0 rfl) ?_
  refine lv_iload_n hx hb dX8_tenthsBy_1 rfl (lv_at hl 1 rfl) ?_
  refine lv_iload_n hx hb dX8_tenthsBy_2 rfl (lv_at hl 2 rfl) ?_
  refine ro_Vi (As := [.int (nI j), .int (bI did)]) (rest := []) (v := nI (dn (q 0 j) (q 1 j) did)) ⟨hx, hb, hml, hown, hts⟩ (c_X8_dreads l D cy ev am g q kb sc hI j (by omega) did) (kz_cwV 2 hts wm_413 wm_410 wm_411 wm_412 wm_5 rfl rfl (by decide +kernel) ⟨Nat.le_of_ble_eq_true rfl, Nat.le_of_ble_eq_true rfl⟩) hK hE hP (kz_recv 0 hK hP rfl rfl) rfl hl.1 rfl (Nat.le_of_ble_eq_true rfl) dX8_tenthsBy_3 ⟨Nat.le_of_ble_eq_true rfl, Nat.le_of_ble_eq_true rfl⟩ ?_
  refine lv_iload_n hx hb dX8_tenthsBy_6 rfl (lv_at hl 3 rfl) ?_
  refine kn_iadd hx hb dX8_tenthsBy_7 ?_
  refine lv_iload hx hb dX8_tenthsBy_8 (lv_at hl 4 rfl) ?_
  refine lv_isub hx hb dX8_tenthsBy_10 ?_
  refine lv_iconst (v := nI 5) hx hb dX8_tenthsBy_11 (by decide) ?_
  refine lv_isub hx hb dX8_tenthsBy_12 ?_
  refine lv_istore (lv' := [(5, .int (((nI ((dn (q 0 j) (q 1 j) did) + y)) - (nI t)) - (nI 5))), (0, .ref (am 0)), (1, .int (nI j)), (2, .int (bI did)), (3, .int (nI y)), (4, .int (nI t))]) hx hb dX8_tenthsBy_13 hl (by decide) rfl (fun ls hl => ?_)
  refine lv_iload hx hb dX8_tenthsBy_15 (lv_at hl 0 rfl) ?_
  refine kt_if_ge (tgt := 24) hx hb dX8_tenthsBy_17 (by decide) (tn_int (Nat.le_trans (dn_le did hper.2.1) (by decide)) (by omega) (by omega)) (fun c17 => ?_) (fun c17 => ?_)
  · skip
    refine lv_iload hx hb dX8_tenthsBy_24 (lv_at hl 0 rfl) ?_
    refine lv_bipush (v := nI 10) hx hb dX8_tenthsBy_26 (by decide) ?_
    refine kt_icmp_le (tgt := 36) hx hb dX8_tenthsBy_28 (by decide) (tn_int (Nat.le_trans (dn_le did hper.2.1) (by decide)) (by omega) (by omega)) (nI_toInt (by decide)) (fun c28 => ?_) (fun c28 => ?_)
    · skip
      refine lv_iload hx hb dX8_tenthsBy_36 (lv_at hl 0 rfl) ?_
      exact ro_ri hx hb hr hlk dX8_tenthsBy_38 (tn_mid (Nat.le_trans (dn_le did hper.2.1) (by decide)) (by omega) (by omega) (by omega) (by omega))
    · skip
      refine lv_bipush (v := nI 10) hx hb dX8_tenthsBy_31 (by decide) ?_
      refine lv_goto (tgt := 38) hx hb dX8_tenthsBy_33 (by decide) ?_
      exact ro_ri hx hb hr hlk dX8_tenthsBy_38 (congrArg nI (by have := tn_le (dn (q 0 j) (q 1 j) did) y t; unfold tn; omega))
  · skip
    refine lv_iconst (v := nI 0) hx hb dX8_tenthsBy_20 (by decide) ?_
    refine lv_goto (tgt := 38) hx hb dX8_tenthsBy_21 (by decide) ?_
    exact ro_ri hx hb hr hlk dX8_tenthsBy_38 (congrArg nI (by have := tn_le (dn (q 0 j) (q 1 j) did) y t; unfold tn; omega))
set_option maxHeartbeats 4000000 in
set_option maxRecDepth 100000 in
theorem c_X8_tenths (l : Launch) (D : va_G) (cy : Nat → ClassId) (ev : kz_V) (am : Nat → Nat) (g : Nat → Nat) (q : Nat → Nat → Nat) (kb : Bool) (sc : MSc) (hI : YI g q) (j : Nat) (hj : j < g 0) (did : Bool) : Met l yX8_tenths (.code yX8_tenths cX8_tenths 3 (some .int) :: WB) { frames := 2, cells := 0, slots := 0, locals := 48 } (ro_Pc D cy ev [.ref (am 0), .int (nI j), .int (bI did)] [zO (am 0) 8 [.int (nI (g 4)), .int (nI (g 0)), .int (nI (g 1)), .ref (am 1), .ref (am 2), .ref (am 3), .ref (am 4), .ref (am 5), .ref (am 6), .ref (am 7), .int (nI (g 9)), .int (nI (g 2)), .ref (am 8), .ref (am 9), .ref (am 10), .ref (am 11), .int (nI (g 5)), .int (nI (g 3)), .ref (am 12), .int (bI sc.1), .int (nI sc.2.1), .ref (am 13), .int sc.2.2.1, .long sc.2.2.2.1, .int (bI kb), .int (nI (g 6)), .int (nI (g 7)), .int (nI (g 10)), .int (nI (g 8)), .ref (am 14), .ref (am 15), .ref (am 16), .ref (am 17), .ref (am 18), .ref (am 19), .ref (am 20), .ref (am 21), .long sc.2.2.2.2.1], zI cy (am 1) 4 (fun i9 => nI ((q 0) i9)), zI cy (am 2) 4 (fun i9 => nI ((q 1) i9)), zI cy (am 3) 4 (fun i9 => nI ((q 2) i9)), zI cy (am 4) 4 (fun i9 => nI ((q 3) i9)), zI cy (am 5) 4 (fun i9 => nI ((q 5) i9)), zI cy (am 6) 4 (fun i9 => nI ((q 6) i9)), zJ cy (am 7) 4 (fun i9 => lN ((q 4) i9)), zI cy (am 8) 6 (fun i9 => nI ((q 12) i9)), zI cy (am 9) 6 (fun i9 => nI ((q 13) i9)), zI cy (am 10) 6 (fun i9 => nI ((q 14) i9)), zI cy (am 11) 6 (fun i9 => nI ((q 15) i9)), zB cy (am 12) 18 (fun i9 => nI ((q 7) i9)), zJ cy (am 13) 16 (fun i9 => lN (sc.2.2.2.2.2 i9)), zI cy (am 14) 4 (fun i9 => nI ((q 8) i9)), zI cy (am 15) 4 (fun i9 => nI ((q 10) i9)), zI cy (am 16) 4 (fun i9 => nI ((q 11) i9)), zJ cy (am 17) 4 (fun i9 => lN ((q 9) i9)), zI cy (am 18) 6 (fun i9 => nI ((q 16) i9)), zI cy (am 19) 6 (fun i9 => nI ((q 17) i9)), zI cy (am 20) 6 (fun i9 => nI ((q 18) i9)), zI cy (am 21) 6 (fun i9 => nI ((q 19) i9))]) (vp_Si (fun r => r = nI (tj q j did (g 1)))) 0 0 (fun _ => False) := by
  refine Met.ofW (cc := cX8_tenths) (maxL := 3) (ret := (some .int)) (by decide) rfl ?_
  intro p e s m args below meth c s₁ B hml hv
  obtain ⟨rfl, hP, hK, hE⟩ := hv
  have hx := B.exec
  have hb := B.bytes
  have hr := B.returns
  have hlk := B.notSynchronized
  have hts : ∀ w ∈ WB, w.before _ s = true := fun w h => atoms_spec B.pre w (List.mem_cons_of_mem _ h)
  have hown : s.vm.findClass RX8 = some m.cls := findClass_of_methodNamed B.named
  have hl := lv_entry ([.ref (am 0), .int (nI j), .int (bI did)]) (n := 3) (Nat.le_of_ble_eq_true rfl)
  rw [lg_entry_eq]
  generalize (lg_sl ([.ref (am 0), .int (nI j), .int (bI did)]) ++ List.replicate (3 - (lg_sl ([.ref (am 0), .int (nI j), .int (bI did)])).length) Slot.unset).toArray = ls at hl ⊢
  have hl : lv_has ls 3 [(0, .ref (am 0)), (1, .int (nI j)), (2, .int (bI did))] := hl
  have hn4 := hI.n
  have hn2 := hI.n2
  have hdry := hI.dry
  have hper := hI.per j hj
  refine lv_aload_n hx hb dX8_tenths_0 rfl (lv_at hl 0 rfl) ?_
  refine lv_iload_n hx hb dX8_tenths_1 rfl (lv_at hl 1 rfl) ?_
  refine lv_iload_n hx hb dX8_tenths_2 rfl (lv_at hl 2 rfl) ?_
  refine lv_aload_n hx hb dX8_tenths_3 rfl (lv_at hl 0 rfl) ?_
  refine va_get (ci := 8) (C := RX8) (T := TX8) (N := 38) hx hb hts inX8 hown hK hP 0 rfl rfl 2 (by decide) (hts _ wm_310) (fun _ h9 => h9) rfl dX8_tenths_4 ?_
  refine lv_aload_n hx hb dX8_tenths_7 rfl (lv_at hl 0 rfl) ?_
  refine va_get (ci := 8) (C := RX8) (T := TX8) (N := 38) hx hb hts inX8 hown hK hP 0 rfl rfl 6 (by decide) (hts _ wm_48) (fun _ h9 => h9) rfl dX8_tenths_8 ?_
  refine lv_iload_n hx hb dX8_tenths_11 rfl (lv_at hl 1 rfl) ?_
  refine kn_iald (v := nI ((q 3) j)) hx hb hK hP 4 rfl (by omega) (by decide) rfl dX8_tenths_12 ?_
  refine ro_Vi (As := [.int (nI j), .int (bI did), .int (nI (g 1)), .int (nI ((q 3) j))]) (rest := []) (v := nI (tn (dn (q 0 j) (q 1 j) did) (g 1) ((q 3) j))) ⟨hx, hb, hml, hown, hts⟩ (c_X8_tenthsBy l D cy ev am g q kb sc hI j (by omega) did (g 1) ((q 3) j) (by omega) (by omega)) (kz_cwV 4 hts wm_409 wm_406 wm_407 wm_408 wm_5 rfl rfl (by decide +kernel) ⟨Nat.le_of_ble_eq_true rfl, Nat.le_of_ble_eq_true rfl⟩) hK hE hP (kz_recv 0 hK hP rfl rfl) rfl hl.1 rfl (Nat.le_of_ble_eq_true rfl) dX8_tenths_13 ⟨Nat.le_of_ble_eq_true rfl, Nat.le_of_ble_eq_true rfl⟩ ?_
  have ht13 : tn (dn (q 0 j) (q 1 j) did) (g 1) ((q 3) j) ≤ 10 := tn_le _ _ _
  exact ro_ri hx hb hr hlk dX8_tenths_16 (rfl)
set_option maxHeartbeats 4000000 in
set_option maxRecDepth 100000 in
theorem c_X8_needOf (l : Launch) (D : va_G) (cy : Nat → ClassId) (ev : kz_V) (am : Nat → Nat) (g : Nat → Nat) (q : Nat → Nat → Nat) (kb : Bool) (sc : MSc) (hI : YI g q) (j : Nat) (hj : j < g 0) : Met l yX8_needOf (.code yX8_needOf cX8_needOf 3 (some .int) :: WB) { frames := 2, cells := 0, slots := 0, locals := 48 } (ro_Pc D cy ev [.ref (am 0), .int (nI j)] [zO (am 0) 8 [.int (nI (g 4)), .int (nI (g 0)), .int (nI (g 1)), .ref (am 1), .ref (am 2), .ref (am 3), .ref (am 4), .ref (am 5), .ref (am 6), .ref (am 7), .int (nI (g 9)), .int (nI (g 2)), .ref (am 8), .ref (am 9), .ref (am 10), .ref (am 11), .int (nI (g 5)), .int (nI (g 3)), .ref (am 12), .int (bI sc.1), .int (nI sc.2.1), .ref (am 13), .int sc.2.2.1, .long sc.2.2.2.1, .int (bI kb), .int (nI (g 6)), .int (nI (g 7)), .int (nI (g 10)), .int (nI (g 8)), .ref (am 14), .ref (am 15), .ref (am 16), .ref (am 17), .ref (am 18), .ref (am 19), .ref (am 20), .ref (am 21), .long sc.2.2.2.2.1], zI cy (am 1) 4 (fun i9 => nI ((q 0) i9)), zI cy (am 2) 4 (fun i9 => nI ((q 1) i9)), zI cy (am 3) 4 (fun i9 => nI ((q 2) i9)), zI cy (am 4) 4 (fun i9 => nI ((q 3) i9)), zI cy (am 5) 4 (fun i9 => nI ((q 5) i9)), zI cy (am 6) 4 (fun i9 => nI ((q 6) i9)), zJ cy (am 7) 4 (fun i9 => lN ((q 4) i9)), zI cy (am 8) 6 (fun i9 => nI ((q 12) i9)), zI cy (am 9) 6 (fun i9 => nI ((q 13) i9)), zI cy (am 10) 6 (fun i9 => nI ((q 14) i9)), zI cy (am 11) 6 (fun i9 => nI ((q 15) i9)), zB cy (am 12) 18 (fun i9 => nI ((q 7) i9)), zJ cy (am 13) 16 (fun i9 => lN (sc.2.2.2.2.2 i9)), zI cy (am 14) 4 (fun i9 => nI ((q 8) i9)), zI cy (am 15) 4 (fun i9 => nI ((q 10) i9)), zI cy (am 16) 4 (fun i9 => nI ((q 11) i9)), zJ cy (am 17) 4 (fun i9 => lN ((q 9) i9)), zI cy (am 18) 6 (fun i9 => nI ((q 16) i9)), zI cy (am 19) 6 (fun i9 => nI ((q 17) i9)), zI cy (am 20) 6 (fun i9 => nI ((q 18) i9)), zI cy (am 21) 6 (fun i9 => nI ((q 19) i9))]) (vp_Si (fun r => r = need (q 0 j) (q 1 j) (g 1))) 0 0 (fun _ => False) := by
  refine Met.ofW (cc := cX8_needOf) (maxL := 3) (ret := (some .int)) (by decide) rfl ?_
  intro p e s m args below meth c s₁ B hml hv
  obtain ⟨rfl, hP, hK, hE⟩ := hv
  have hx := B.exec
  have hb := B.bytes
  have hr := B.returns
  have hlk := B.notSynchronized
  have hts : ∀ w ∈ WB, w.before _ s = true := fun w h => atoms_spec B.pre w (List.mem_cons_of_mem _ h)
  have hown : s.vm.findClass RX8 = some m.cls := findClass_of_methodNamed B.named
  have hl := lv_entry ([.ref (am 0), .int (nI j)]) (n := 3) (Nat.le_of_ble_eq_true rfl)
  rw [lg_entry_eq]
  generalize (lg_sl ([.ref (am 0), .int (nI j)]) ++ List.replicate (3 - (lg_sl ([.ref (am 0), .int (nI j)])).length) Slot.unset).toArray = ls at hl ⊢
  have hl : lv_has ls 3 [(0, .ref (am 0)), (1, .int (nI j))] := hl
  have hn4 := hI.n
  have hn2 := hI.n2
  have hdry := hI.dry
  have hper := hI.per j hj
  refine lv_iconst (v := nI 0) hx hb dX8_needOf_0 (by decide) ?_
  refine lv_istore_n (lv' := [(2, .int (nI 0)), (0, .ref (am 0)), (1, .int (nI j))]) hx hb dX8_needOf_1 rfl hl (by decide) rfl (fun ls hl => ?_)
  refine kn_loopR (α := Unit) (10) (fun i _ ls => (i ≤ 10) ∧ (need (q 0 j) (q 1 j) (g 1) = ndF (ndB (q 0 j) (q 1 j) (g 1)) (10 - i) i) ∧ lv_has ls 3 [(0, .ref (am 0)), (1, .int (nI j)), (2, .int (nI i))]) (0) (()) ⟨(by decide), rfl, lv_sub hl [1, 2, 0] rfl⟩ (fun i _ ls hI ih2 => ?_)
  obtain ⟨hi, hq, hl⟩ := hI
  refine lv_iload_n hx hb dX8_needOf_2 rfl (lv_at hl 2 rfl) ?_
  refine lv_bipush (v := nI 9) hx hb dX8_needOf_3 (by decide) ?_
  refine kt_icmp_gt (tgt := 44) hx hb dX8_needOf_5 (by decide) (nI_toInt (by omega)) (nI_toInt (by decide)) (fun c5 => ?_) (fun c5 => ?_)
  · skip
    refine lv_iconst (v := (-1)) hx hb dX8_needOf_44 (by decide) ?_
    exact ro_ri hx hb hr hlk dX8_needOf_45 (by rw [hq, show i = 10 by omega]; rfl)
  · skip
    refine lv_aload_n hx hb dX8_needOf_8 rfl (lv_at hl 0 rfl) ?_
    refine lv_iload_n hx hb dX8_needOf_9 rfl (lv_at hl 1 rfl) ?_
    refine lv_iconst (v := nI 1) hx hb dX8_needOf_10 (by decide) ?_
    refine lv_aload_n hx hb dX8_needOf_11 rfl (lv_at hl 0 rfl) ?_
    refine va_get (ci := 8) (C := RX8) (T := TX8) (N := 38) hx hb hts inX8 hown hK hP 0 rfl rfl 2 (by decide) (hts _ wm_310) (fun _ h9 => h9) rfl dX8_needOf_12 ?_
    refine lv_iload_n hx hb dX8_needOf_15 rfl (lv_at hl 2 rfl) ?_
    refine kn_as (st' := [.int (nI i), .int (nI (g 1)), .int (bI true), .int (nI j), .ref (am 0)]) rfl ?_
    refine ro_Vi (As := [.int (nI j), .int (bI true), .int (nI (g 1)), .int (nI i)]) (rest := []) (v := nI (tn (dn (q 0 j) (q 1 j) true) (g 1) i)) ⟨hx, hb, hml, hown, hts⟩ (c_X8_tenthsBy l D cy ev am g q kb sc hI j (by omega) true (g 1) i (by omega) (by omega)) (kz_cwV 4 hts wm_409 wm_406 wm_407 wm_408 wm_5 rfl rfl (by decide +kernel) ⟨Nat.le_of_ble_eq_true rfl, Nat.le_of_ble_eq_true rfl⟩) hK hE hP (kz_recv 0 hK hP rfl rfl) rfl hl.1 rfl (Nat.le_of_ble_eq_true rfl) dX8_needOf_16 ⟨Nat.le_of_ble_eq_true rfl, Nat.le_of_ble_eq_true rfl⟩ ?_
    have ht16 : tn (dn (q 0 j) (q 1 j) true) (g 1) i ≤ 10 := tn_le _ _ _
    refine kt_if_ne (tgt := 38) hx hb dX8_needOf_19 (by decide) (nI_toInt (by omega)) (fun c19 => ?_) (fun c19 => ?_)
    · skip
      refine kn_iinc (k := 2) (x := i) (d := 1) (lv' := [(2, .int (nI (i + 1))), (0, .ref (am 0)), (1, .int (nI j))]) hx hb dX8_needOf_38 hl rfl (by decide) rfl (fun ls hl => ?_)
      refine lv_goto (tgt := 2) hx hb dX8_needOf_41 (by decide) ?_
      exact ih2 (()) _ (by omega) ⟨(by omega), hq.trans (ndF_miss (by omega) (by unfold ndB; rw [Bool.and_eq_false_iff]; left; rw [decide_eq_false_iff_not]; omega)), lv_sub hl [1, 2, 0] rfl⟩
    · skip
      refine lv_aload_n hx hb dX8_needOf_22 rfl (lv_at hl 0 rfl) ?_
      refine lv_iload_n hx hb dX8_needOf_23 rfl (lv_at hl 1 rfl) ?_
      refine lv_iconst (v := nI 0) hx hb dX8_needOf_24 (by decide) ?_
      refine lv_aload_n hx hb dX8_needOf_25 rfl (lv_at hl 0 rfl) ?_
      refine va_get (ci := 8) (C := RX8) (T := TX8) (N := 38) hx hb hts inX8 hown hK hP 0 rfl rfl 2 (by decide) (hts _ wm_310) (fun _ h9 => h9) rfl dX8_needOf_26 ?_
      refine lv_iload_n hx hb dX8_needOf_29 rfl (lv_at hl 2 rfl) ?_
      refine kn_as (st' := [.int (nI i), .int (nI (g 1)), .int (bI false), .int (nI j), .ref (am 0)]) rfl ?_
      refine ro_Vi (As := [.int (nI j), .int (bI false), .int (nI (g 1)), .int (nI i)]) (rest := []) (v := nI (tn (dn (q 0 j) (q 1 j) false) (g 1) i)) ⟨hx, hb, hml, hown, hts⟩ (c_X8_tenthsBy l D cy ev am g q kb sc hI j (by omega) false (g 1) i (by omega) (by omega)) (kz_cwV 4 hts wm_409 wm_406 wm_407 wm_408 wm_5 rfl rfl (by decide +kernel) ⟨Nat.le_of_ble_eq_true rfl, Nat.le_of_ble_eq_true rfl⟩) hK hE hP (kz_recv 0 hK hP rfl rfl) rfl hl.1 rfl (Nat.le_of_ble_eq_true rfl) dX8_needOf_30 ⟨Nat.le_of_ble_eq_true rfl, Nat.le_of_ble_eq_true rfl⟩ ?_
      have ht30 : tn (dn (q 0 j) (q 1 j) false) (g 1) i ≤ 10 := tn_le _ _ _
      refine kt_if_ne (tgt := 38) hx hb dX8_needOf_33 (by decide) (nI_toInt (by omega)) (fun c33 => ?_) (fun c33 => ?_)
      · skip
        refine kn_iinc (k := 2) (x := i) (d := 1) (lv' := [(2, .int (nI (i + 1))), (0, .ref (am 0)), (1, .int (nI j))]) hx hb dX8_needOf_38 hl rfl (by decide) rfl (fun ls hl => ?_)
        refine lv_goto (tgt := 2) hx hb dX8_needOf_41 (by decide) ?_
        exact ih2 (()) _ (by omega) ⟨(by omega), hq.trans (ndF_miss (by omega) (by unfold ndB; rw [Bool.and_eq_false_iff]; right; rw [decide_eq_false_iff_not]; omega)), lv_sub hl [1, 2, 0] rfl⟩
      · skip
        refine lv_iload_n hx hb dX8_needOf_36 rfl (lv_at hl 2 rfl) ?_
        exact ro_ri hx hb hr hlk dX8_needOf_37 (by rw [hq, ndF_hit (by omega) (by unfold ndB; rw [Bool.and_eq_true, decide_eq_true_iff, decide_eq_true_iff]; omega)])
set_option maxHeartbeats 4000000 in
set_option maxRecDepth 100000 in
theorem c_X8_oneNow (l : Launch) (D : va_G) (cy : Nat → ClassId) (ev : kz_V) (am : Nat → Nat) (g : Nat → Nat) (q : Nat → Nat → Nat) (kb : Bool) (sc : MSc) (hI : YI g q) (j : Nat) (hj : j < g 0) (k : Nat) (hk : k < 9) : Met l yX8_oneNow (.code yX8_oneNow cX8_oneNow 3 (some .int) :: WB) { frames := 3, cells := 0, slots := 0, locals := 70 } (ro_Pc D cy ev [.ref (am 0), .int (nI j), .int (nI k)] [zO (am 0) 8 [.int (nI (g 4)), .int (nI (g 0)), .int (nI (g 1)), .ref (am 1), .ref (am 2), .ref (am 3), .ref (am 4), .ref (am 5), .ref (am 6), .ref (am 7), .int (nI (g 9)), .int (nI (g 2)), .ref (am 8), .ref (am 9), .ref (am 10), .ref (am 11), .int (nI (g 5)), .int (nI (g 3)), .ref (am 12), .int (bI sc.1), .int (nI sc.2.1), .ref (am 13), .int sc.2.2.1, .long sc.2.2.2.1, .int (bI kb), .int (nI (g 6)), .int (nI (g 7)), .int (nI (g 10)), .int (nI (g 8)), .ref (am 14), .ref (am 15), .ref (am 16), .ref (am 17), .ref (am 18), .ref (am 19), .ref (am 20), .ref (am 21), .long sc.2.2.2.2.1], zI cy (am 1) 4 (fun i9 => nI ((q 0) i9)), zI cy (am 2) 4 (fun i9 => nI ((q 1) i9)), zI cy (am 3) 4 (fun i9 => nI ((q 2) i9)), zI cy (am 4) 4 (fun i9 => nI ((q 3) i9)), zI cy (am 5) 4 (fun i9 => nI ((q 5) i9)), zI cy (am 6) 4 (fun i9 => nI ((q 6) i9)), zJ cy (am 7) 4 (fun i9 => lN ((q 4) i9)), zI cy (am 8) 6 (fun i9 => nI ((q 12) i9)), zI cy (am 9) 6 (fun i9 => nI ((q 13) i9)), zI cy (am 10) 6 (fun i9 => nI ((q 14) i9)), zI cy (am 11) 6 (fun i9 => nI ((q 15) i9)), zB cy (am 12) 18 (fun i9 => nI ((q 7) i9)), zJ cy (am 13) 16 (fun i9 => lN (sc.2.2.2.2.2 i9)), zI cy (am 14) 4 (fun i9 => nI ((q 8) i9)), zI cy (am 15) 4 (fun i9 => nI ((q 10) i9)), zI cy (am 16) 4 (fun i9 => nI ((q 11) i9)), zJ cy (am 17) 4 (fun i9 => lN ((q 9) i9)), zI cy (am 18) 6 (fun i9 => nI ((q 16) i9)), zI cy (am 19) 6 (fun i9 => nI ((q 17) i9)), zI cy (am 20) 6 (fun i9 => nI ((q 18) i9)), zI cy (am 21) 6 (fun i9 => nI ((q 19) i9))]) (vp_Si (fun r => r = ab g q j k)) 0 0 (fun _ => False) := by
  refine Met.ofW (cc := cX8_oneNow) (maxL := 3) (ret := (some .int)) (by decide) rfl ?_
  intro p e s m args below meth c s₁ B hml hv
  obtain ⟨rfl, hP, hK, hE⟩ := hv
  have hx := B.exec
  have hb := B.bytes
  have hr := B.returns
  have hlk := B.notSynchronized
  have hts : ∀ w ∈ WB, w.before _ s = true := fun w h => atoms_spec B.pre w (List.mem_cons_of_mem _ h)
  have hown : s.vm.findClass RX8 = some m.cls := findClass_of_methodNamed B.named
  have hl := lv_entry ([.ref (am 0), .int (nI j), .int (nI k)]) (n := 3) (Nat.le_of_ble_eq_true rfl)
  rw [lg_entry_eq]
  generalize (lg_sl ([.ref (am 0), .int (nI j), .int (nI k)]) ++ List.replicate (3 - (lg_sl ([.ref (am 0), .int (nI j), .int (nI k)])).length) Slot.unset).toArray = ls at hl ⊢
  have hl : lv_has ls 3 [(0, .ref (am 0)), (1, .int (nI j)), (2, .int (nI k))] := hl
  have hn4 := hI.n
  have hn2 := hI.n2
  have hdry := hI.dry
  have hper := hI.per j hj
  refine lv_iload_n hx hb dX8_oneNow_0 rfl (lv_at hl 2 rfl) ?_
  rcases (show k = 0 ∨ k = 1 ∨ k = 2 ∨ k = 3 ∨ k = 4 ∨ k = 5 ∨ k = 6 ∨ k = 7 ∨ k = 8 by omega) with rfl | rfl | rfl | rfl | rfl | rfl | rfl | rfl | rfl
  · skip
    refine lv_tableIn (tgt := 48) (off := 47) hx hb dX8_oneNow_1 (by decide) (by decide) rfl (by decide) ?_
    refine lv_aload_n hx hb dX8_oneNow_48 rfl (lv_at hl 0 rfl) ?_
    refine va_get (ci := 8) (C := RX8) (T := TX8) (N := 38) hx hb hts inX8 hown hK hP 0 rfl rfl 3 (by decide) (hts _ wm_45) (fun _ h9 => h9) rfl dX8_oneNow_49 ?_
    refine lv_iload_n hx hb dX8_oneNow_52 rfl (lv_at hl 1 rfl) ?_
    refine kn_iald (v := nI ((q 0) j)) hx hb hK hP 1 rfl (by omega) (by decide) rfl dX8_oneNow_53 ?_
    exact ro_ri hx hb hr hlk dX8_oneNow_54 (rfl)
  · skip
    refine lv_tableIn (tgt := 55) (off := 54) hx hb dX8_oneNow_1 (by decide) (by decide) rfl (by decide) ?_
    refine lv_aload_n hx hb dX8_oneNow_55 rfl (lv_at hl 0 rfl) ?_
    refine va_get (ci := 8) (C := RX8) (T := TX8) (N := 38) hx hb hts inX8 hown hK hP 0 rfl rfl 4 (by decide) (hts _ wm_46) (fun _ h9 => h9) rfl dX8_oneNow_56 ?_
    refine lv_iload_n hx hb dX8_oneNow_59 rfl (lv_at hl 1 rfl) ?_
    refine kn_iald (v := nI ((q 1) j)) hx hb hK hP 2 rfl (by omega) (by decide) rfl dX8_oneNow_60 ?_
    exact ro_ri hx hb hr hlk dX8_oneNow_61 (rfl)
  · skip
    refine lv_tableIn (tgt := 62) (off := 61) hx hb dX8_oneNow_1 (by decide) (by decide) rfl (by decide) ?_
    refine lv_aload_n hx hb dX8_oneNow_62 rfl (lv_at hl 0 rfl) ?_
    refine va_get (ci := 8) (C := RX8) (T := TX8) (N := 38) hx hb hts inX8 hown hK hP 0 rfl rfl 5 (by decide) (hts _ wm_47) (fun _ h9 => h9) rfl dX8_oneNow_63 ?_
    refine lv_iload_n hx hb dX8_oneNow_66 rfl (lv_at hl 1 rfl) ?_
    refine kn_iald (v := nI ((q 2) j)) hx hb hK hP 3 rfl (by omega) (by decide) rfl dX8_oneNow_67 ?_
    exact ro_ri hx hb hr hlk dX8_oneNow_68 (rfl)
  · skip
    refine lv_tableIn (tgt := 69) (off := 68) hx hb dX8_oneNow_1 (by decide) (by decide) rfl (by decide) ?_
    refine lv_aload_n hx hb dX8_oneNow_69 rfl (lv_at hl 0 rfl) ?_
    refine va_get (ci := 8) (C := RX8) (T := TX8) (N := 38) hx hb hts inX8 hown hK hP 0 rfl rfl 6 (by decide) (hts _ wm_48) (fun _ h9 => h9) rfl dX8_oneNow_70 ?_
    refine lv_iload_n hx hb dX8_oneNow_73 rfl (lv_at hl 1 rfl) ?_
    refine kn_iald (v := nI ((q 3) j)) hx hb hK hP 4 rfl (by omega) (by decide) rfl dX8_oneNow_74 ?_
    exact ro_ri hx hb hr hlk dX8_oneNow_75 (rfl)
  · skip
    refine lv_tableIn (tgt := 76) (off := 75) hx hb dX8_oneNow_1 (by decide) (by decide) rfl (by decide) ?_
    refine lv_aload_n hx hb dX8_oneNow_76 rfl (lv_at hl 0 rfl) ?_
    refine lv_iload_n hx hb dX8_oneNow_77 rfl (lv_at hl 1 rfl) ?_
    refine lv_iconst (v := nI 1) hx hb dX8_oneNow_78 (by decide) ?_
    refine kn_as (st' := [.int (bI true), .int (nI j), .ref (am 0)]) rfl ?_
    refine ro_Vi (As := [.int (nI j), .int (bI true)]) (rest := []) (v := nI (tj q j true (g 1))) ⟨hx, hb, hml, hown, hts⟩ (c_X8_tenths l D cy ev am g q kb sc hI j (by omega) true) (kz_cwV 2 hts wm_405 wm_402 wm_403 wm_404 wm_5 rfl rfl (by decide +kernel) ⟨Nat.le_of_ble_eq_true rfl, Nat.le_of_ble_eq_true rfl⟩) hK hE hP (kz_recv 0 hK hP rfl rfl) rfl hl.1 rfl (Nat.le_of_ble_eq_true rfl) dX8_oneNow_79 ⟨Nat.le_of_ble_eq_true rfl, Nat.le_of_ble_eq_true rfl⟩ ?_
    have ht79 : tj q j true (g 1) ≤ 10 := tj_le _ _ _ _
    exact ro_ri hx hb hr hlk dX8_oneNow_82 (rfl)
  · skip
    refine lv_tableIn (tgt := 83) (off := 82) hx hb dX8_oneNow_1 (by decide) (by decide) rfl (by decide) ?_
    refine lv_aload_n hx hb dX8_oneNow_83 rfl (lv_at hl 0 rfl) ?_
    refine lv_iload_n hx hb dX8_oneNow_84 rfl (lv_at hl 1 rfl) ?_
    refine lv_iconst (v := nI 0) hx hb dX8_oneNow_85 (by decide) ?_
    refine kn_as (st' := [.int (bI false), .int (nI j), .ref (am 0)]) rfl ?_
    refine ro_Vi (As := [.int (nI j), .int (bI false)]) (rest := []) (v := nI (tj q j false (g 1))) ⟨hx, hb, hml, hown, hts⟩ (c_X8_tenths l D cy ev am g q kb sc hI j (by omega) false) (kz_cwV 2 hts wm_405 wm_402 wm_403 wm_404 wm_5 rfl rfl (by decide +kernel) ⟨Nat.le_of_ble_eq_true rfl, Nat.le_of_ble_eq_true rfl⟩) hK hE hP (kz_recv 0 hK hP rfl rfl) rfl hl.1 rfl (Nat.le_of_ble_eq_true rfl) dX8_oneNow_86 ⟨Nat.le_of_ble_eq_true rfl, Nat.le_of_ble_eq_true rfl⟩ ?_
    have ht86 : tj q j false (g 1) ≤ 10 := tj_le _ _ _ _
    exact ro_ri hx hb hr hlk dX8_oneNow_89 (rfl)
  · skip
    refine lv_tableIn (tgt := 90) (off := 89) hx hb dX8_oneNow_1 (by decide) (by decide) rfl (by decide) ?_
    refine lv_aload_n hx hb dX8_oneNow_90 rfl (lv_at hl 0 rfl) ?_
    refine va_get (ci := 8) (C := RX8) (T := TX8) (N := 38) hx hb hts inX8 hown hK hP 0 rfl rfl 7 (by decide) (hts _ wm_49) (fun _ h9 => h9) rfl dX8_oneNow_91 ?_
    refine lv_iload_n hx hb dX8_oneNow_94 rfl (lv_at hl 1 rfl) ?_
    refine kn_iald (v := nI ((q 5) j)) hx hb hK hP 5 rfl (by omega) (by decide) rfl dX8_oneNow_95 ?_
    exact ro_ri hx hb hr hlk dX8_oneNow_96 (rfl)
  · skip
    refine lv_tableIn (tgt := 97) (off := 96) hx hb dX8_oneNow_1 (by decide) (by decide) rfl (by decide) ?_
    refine lv_aload_n hx hb dX8_oneNow_97 rfl (lv_at hl 0 rfl) ?_
    refine va_get (ci := 8) (C := RX8) (T := TX8) (N := 38) hx hb hts inX8 hown hK hP 0 rfl rfl 8 (by decide) (hts _ wm_50) (fun _ h9 => h9) rfl dX8_oneNow_98 ?_
    refine lv_iload_n hx hb dX8_oneNow_101 rfl (lv_at hl 1 rfl) ?_
    refine kn_iald (v := nI ((q 6) j)) hx hb hK hP 6 rfl (by omega) (by decide) rfl dX8_oneNow_102 ?_
    exact ro_ri hx hb hr hlk dX8_oneNow_103 (rfl)
  · skip
    refine lv_tableOut (tgt := 104) hx hb dX8_oneNow_1 (by decide) (by decide) ?_
    refine lv_aload_n hx hb dX8_oneNow_104 rfl (lv_at hl 0 rfl) ?_
    refine lv_iload_n hx hb dX8_oneNow_105 rfl (lv_at hl 1 rfl) ?_
    refine ro_Vi (As := [.int (nI j)]) (rest := []) (v := need (q 0 j) (q 1 j) (g 1)) ⟨hx, hb, hml, hown, hts⟩ (c_X8_needOf l D cy ev am g q kb sc hI j (by omega)) (kz_cwV 1 hts wm_417 wm_414 wm_415 wm_416 wm_5 rfl rfl (by decide +kernel) ⟨Nat.le_of_ble_eq_true rfl, Nat.le_of_ble_eq_true rfl⟩) hK hE hP (kz_recv 0 hK hP rfl rfl) rfl hl.1 rfl (Nat.le_of_ble_eq_true rfl) dX8_oneNow_106 ⟨Nat.le_of_ble_eq_true rfl, Nat.le_of_ble_eq_true rfl⟩ ?_
    exact ro_ri hx hb hr hlk dX8_oneNow_109 (rfl)
set_option maxHeartbeats 4000000 in
set_option maxRecDepth 100000 in
theorem c_X8_about (l : Launch) (D : va_G) (cy : Nat → ClassId) (ev : kz_V) (am : Nat → Nat) (g : Nat → Nat) (q : Nat → Nat → Nat) (kb : Bool) (sc : MSc) (hI : YI g q) (x y : Int32) : Met l yX8_about (.code yX8_about cX8_about 3 (some .int) :: WB) { frames := 4, cells := 0, slots := 0, locals := 92 } (ro_Pc D cy ev [.ref (am 0), .int x, .int y] [zO (am 0) 8 [.int (nI (g 4)), .int (nI (g 0)), .int (nI (g 1)), .ref (am 1), .ref (am 2), .ref (am 3), .ref (am 4), .ref (am 5), .ref (am 6), .ref (am 7), .int (nI (g 9)), .int (nI (g 2)), .ref (am 8), .ref (am 9), .ref (am 10), .ref (am 11), .int (nI (g 5)), .int (nI (g 3)), .ref (am 12), .int (bI sc.1), .int (nI sc.2.1), .ref (am 13), .int sc.2.2.1, .long sc.2.2.2.1, .int (bI kb), .int (nI (g 6)), .int (nI (g 7)), .int (nI (g 10)), .int (nI (g 8)), .ref (am 14), .ref (am 15), .ref (am 16), .ref (am 17), .ref (am 18), .ref (am 19), .ref (am 20), .ref (am 21), .long sc.2.2.2.2.1], zI cy (am 1) 4 (fun i9 => nI ((q 0) i9)), zI cy (am 2) 4 (fun i9 => nI ((q 1) i9)), zI cy (am 3) 4 (fun i9 => nI ((q 2) i9)), zI cy (am 4) 4 (fun i9 => nI ((q 3) i9)), zI cy (am 5) 4 (fun i9 => nI ((q 5) i9)), zI cy (am 6) 4 (fun i9 => nI ((q 6) i9)), zJ cy (am 7) 4 (fun i9 => lN ((q 4) i9)), zI cy (am 8) 6 (fun i9 => nI ((q 12) i9)), zI cy (am 9) 6 (fun i9 => nI ((q 13) i9)), zI cy (am 10) 6 (fun i9 => nI ((q 14) i9)), zI cy (am 11) 6 (fun i9 => nI ((q 15) i9)), zB cy (am 12) 18 (fun i9 => nI ((q 7) i9)), zJ cy (am 13) 16 (fun i9 => lN (sc.2.2.2.2.2 i9)), zI cy (am 14) 4 (fun i9 => nI ((q 8) i9)), zI cy (am 15) 4 (fun i9 => nI ((q 10) i9)), zI cy (am 16) 4 (fun i9 => nI ((q 11) i9)), zJ cy (am 17) 4 (fun i9 => lN ((q 9) i9)), zI cy (am 18) 6 (fun i9 => nI ((q 16) i9)), zI cy (am 19) 6 (fun i9 => nI ((q 17) i9)), zI cy (am 20) 6 (fun i9 => nI ((q 18) i9)), zI cy (am 21) 6 (fun i9 => nI ((q 19) i9))]) (vp_Si (fun r => r = F_about g q x y)) 0 0 (fun _ => False) := by
  refine Met.ofW (cc := cX8_about) (maxL := 3) (ret := (some .int)) (by decide) rfl ?_
  intro p e s m args below meth c s₁ B hml hv
  obtain ⟨rfl, hP, hK, hE⟩ := hv
  have hx := B.exec
  have hb := B.bytes
  have hr := B.returns
  have hlk := B.notSynchronized
  have hts : ∀ w ∈ WB, w.before _ s = true := fun w h => atoms_spec B.pre w (List.mem_cons_of_mem _ h)
  have hown : s.vm.findClass RX8 = some m.cls := findClass_of_methodNamed B.named
  have hl := lv_entry ([.ref (am 0), .int x, .int y]) (n := 3) (Nat.le_of_ble_eq_true rfl)
  rw [lg_entry_eq]
  generalize (lg_sl ([.ref (am 0), .int x, .int y]) ++ List.replicate (3 - (lg_sl ([.ref (am 0), .int x, .int y])).length) Slot.unset).toArray = ls at hl ⊢
  have hl : lv_has ls 3 [(0, .ref (am 0)), (1, .int x), (2, .int y)] := hl
  have hn4 := hI.n
  have hn2 := hI.n2
  have hdry := hI.dry
  rcases hi_x : ix (g 0) x with _ | j
  · skip
    have hn_x := ix_none hi_x
    refine lv_aload_n hx hb dX8_about_0 rfl (lv_at hl 0 rfl) ?_
    refine lv_iload_n hx hb dX8_about_1 rfl (lv_at hl 1 rfl) ?_
    refine ro_Vi (As := [.int x]) (rest := []) (v := bI false) ⟨hx, hb, hml, hown, hts⟩ (c_X8_isOne_n l D cy ev am g q kb sc hI x hi_x) (kz_cwV 1 hts wm_397 wm_394 wm_395 wm_396 wm_5 rfl rfl (by decide +kernel) ⟨Nat.le_of_ble_eq_true rfl, Nat.le_of_ble_eq_true rfl⟩) hK hE hP (kz_recv 0 hK hP rfl rfl) rfl hl.1 rfl (Nat.le_of_ble_eq_true rfl) dX8_about_2 ⟨Nat.le_of_ble_eq_true rfl, Nat.le_of_ble_eq_true rfl⟩ ?_
    refine kt_ifB_ne (tgt := 13) hx hb dX8_about_5 (by decide) (fun c5 => absurd c5 (by decide)) (fun c5 => ?_)
    refine lv_bipush (v := (-101)) hx hb dX8_about_8 (by decide) ?_
    refine lv_goto (tgt := 34) hx hb dX8_about_10 (by decide) ?_
    exact ro_ri hx hb hr hlk dX8_about_34 (by unfold F_about; rw [hi_x])
  · skip
    obtain ⟨hj, rfl⟩ := ix_some hi_x
    have hper := hI.per j hj
    rcases hi_y : ix (9) y with _ | k
    · skip
      have hn_y := ix_none hi_y
      refine lv_aload_n hx hb dX8_about_0 rfl (lv_at hl 0 rfl) ?_
      refine lv_iload_n hx hb dX8_about_1 rfl (lv_at hl 1 rfl) ?_
      refine ro_Vi (As := [.int (nI j)]) (rest := []) (v := bI true) ⟨hx, hb, hml, hown, hts⟩ (c_X8_isOne_t l D cy ev am g q kb sc hI j (by omega)) (kz_cwV 1 hts wm_397 wm_394 wm_395 wm_396 wm_5 rfl rfl (by decide +kernel) ⟨Nat.le_of_ble_eq_true rfl, Nat.le_of_ble_eq_true rfl⟩) hK hE hP (kz_recv 0 hK hP rfl rfl) rfl hl.1 rfl (Nat.le_of_ble_eq_true rfl) dX8_about_2 ⟨Nat.le_of_ble_eq_true rfl, Nat.le_of_ble_eq_true rfl⟩ ?_
      refine kt_ifB_ne (tgt := 13) hx hb dX8_about_5 (by decide) (fun c5 => ?_) (fun c5 => absurd c5 (by decide))
      refine lv_iload_n hx hb dX8_about_13 rfl (lv_at hl 2 rfl) ?_
      refine lv_iconst (v := nI 0) hx hb dX8_about_14 (by decide) ?_
      refine lv_bipush (v := nI 8) hx hb dX8_about_15 (by decide) ?_
      refine ro_Si (As := [.int y, .int (nI 0), .int (nI 8)]) (rest := []) (v := bI false) ⟨hx, hb, hml, hown, hts⟩ (c_X8_within_f l D cy ev (y) (nI 0) (nI 8) _ _ _ rfl (nI_toInt (by decide)) (nI_toInt (by decide)) (by omega)) (kz_cwS 3 hts wm_84 wm_82 wm_83 wm_5 rfl rfl (by decide +kernel) ⟨Nat.le_of_ble_eq_true rfl, Nat.le_of_ble_eq_true rfl⟩) hK hE (fun k q h => by simp at h) rfl hl.1 rfl (Nat.le_of_ble_eq_true rfl) dX8_about_17 ⟨Nat.le_of_ble_eq_true rfl, Nat.le_of_ble_eq_true rfl⟩ ?_
      refine kt_ifB_eq (tgt := 32) hx hb dX8_about_20 (by decide) (fun c20 => ?_) (fun c20 => absurd c20 (by decide))
      refine lv_bipush (v := (-102)) hx hb dX8_about_32 (by decide) ?_
      exact ro_ri hx hb hr hlk dX8_about_34 (by unfold F_about; rw [hi_x, hi_y])
    · skip
      obtain ⟨hk, rfl⟩ := ix_some hi_y
      refine lv_aload_n hx hb dX8_about_0 rfl (lv_at hl 0 rfl) ?_
      refine lv_iload_n hx hb dX8_about_1 rfl (lv_at hl 1 rfl) ?_
      refine ro_Vi (As := [.int (nI j)]) (rest := []) (v := bI true) ⟨hx, hb, hml, hown, hts⟩ (c_X8_isOne_t l D cy ev am g q kb sc hI j (by omega)) (kz_cwV 1 hts wm_397 wm_394 wm_395 wm_396 wm_5 rfl rfl (by decide +kernel) ⟨Nat.le_of_ble_eq_true rfl, Nat.le_of_ble_eq_true rfl⟩) hK hE hP (kz_recv 0 hK hP rfl rfl) rfl hl.1 rfl (Nat.le_of_ble_eq_true rfl) dX8_about_2 ⟨Nat.le_of_ble_eq_true rfl, Nat.le_of_ble_eq_true rfl⟩ ?_
      refine kt_ifB_ne (tgt := 13) hx hb dX8_about_5 (by decide) (fun c5 => ?_) (fun c5 => absurd c5 (by decide))
      refine lv_iload_n hx hb dX8_about_13 rfl (lv_at hl 2 rfl) ?_
      refine lv_iconst (v := nI 0) hx hb dX8_about_14 (by decide) ?_
      refine lv_bipush (v := nI 8) hx hb dX8_about_15 (by decide) ?_
      refine ro_Si (As := [.int (nI k), .int (nI 0), .int (nI 8)]) (rest := []) (v := bI true) ⟨hx, hb, hml, hown, hts⟩ (c_X8_within_t l D cy ev (nI k) (nI 0) (nI 8) _ _ _ (nI_toInt (by omega)) (nI_toInt (by decide)) (nI_toInt (by decide)) (by omega)) (kz_cwS 3 hts wm_84 wm_82 wm_83 wm_5 rfl rfl (by decide +kernel) ⟨Nat.le_of_ble_eq_true rfl, Nat.le_of_ble_eq_true rfl⟩) hK hE (fun k q h => by simp at h) rfl hl.1 rfl (Nat.le_of_ble_eq_true rfl) dX8_about_17 ⟨Nat.le_of_ble_eq_true rfl, Nat.le_of_ble_eq_true rfl⟩ ?_
      refine kt_ifB_eq (tgt := 32) hx hb dX8_about_20 (by decide) (fun c20 => absurd c20 (by decide)) (fun c20 => ?_)
      refine lv_aload_n hx hb dX8_about_23 rfl (lv_at hl 0 rfl) ?_
      refine lv_iload_n hx hb dX8_about_24 rfl (lv_at hl 1 rfl) ?_
      refine lv_iload_n hx hb dX8_about_25 rfl (lv_at hl 2 rfl) ?_
      refine ro_Vi (As := [.int (nI j), .int (nI k)]) (rest := []) (v := ab g q j k) ⟨hx, hb, hml, hown, hts⟩ (c_X8_oneNow l D cy ev am g q kb sc hI j (by omega) k (by omega)) (kz_cwV 2 hts wm_401 wm_398 wm_399 wm_400 wm_5 rfl rfl (by decide +kernel) ⟨Nat.le_of_ble_eq_true rfl, Nat.le_of_ble_eq_true rfl⟩) hK hE hP (kz_recv 0 hK hP rfl rfl) rfl hl.1 rfl (Nat.le_of_ble_eq_true rfl) dX8_about_26 ⟨Nat.le_of_ble_eq_true rfl, Nat.le_of_ble_eq_true rfl⟩ ?_
      refine lv_goto (tgt := 34) hx hb dX8_about_29 (by decide) ?_
      exact ro_ri hx hb hr hlk dX8_about_34 (by unfold F_about; rw [hi_x, hi_y])
set_option maxHeartbeats 4000000 in
set_option maxRecDepth 100000 in
theorem c_X8_as (l : Launch) (D : va_G) (cy : Nat → ClassId) (ev : kz_V) (am : Nat → Nat) (g : Nat → Nat) (q : Nat → Nat → Nat) (kb : Bool) (sc : MSc) (hI : YI g q) (x y : Int32) : Met l yX8_as (.code yX8_as cX8_as 4 (some .int) :: WB) { frames := 2, cells := 0, slots := 0, locals := 43 } (ro_Pc D cy ev [.ref (am 0), .int x, .int y] [zO (am 0) 8 [.int (nI (g 4)), .int (nI (g 0)), .int (nI (g 1)), .ref (am 1), .ref (am 2), .ref (am 3), .ref (am 4), .ref (am 5), .ref (am 6), .ref (am 7), .int (nI (g 9)), .int (nI (g 2)), .ref (am 8), .ref (am 9), .ref (am 10), .ref (am 11), .int (nI (g 5)), .int (nI (g 3)), .ref (am 12), .int (bI sc.1), .int (nI sc.2.1), .ref (am 13), .int sc.2.2.1, .long sc.2.2.2.1, .int (bI kb), .int (nI (g 6)), .int (nI (g 7)), .int (nI (g 10)), .int (nI (g 8)), .ref (am 14), .ref (am 15), .ref (am 16), .ref (am 17), .ref (am 18), .ref (am 19), .ref (am 20), .ref (am 21), .long sc.2.2.2.2.1], zI cy (am 1) 4 (fun i9 => nI ((q 0) i9)), zI cy (am 2) 4 (fun i9 => nI ((q 1) i9)), zI cy (am 3) 4 (fun i9 => nI ((q 2) i9)), zI cy (am 4) 4 (fun i9 => nI ((q 3) i9)), zI cy (am 5) 4 (fun i9 => nI ((q 5) i9)), zI cy (am 6) 4 (fun i9 => nI ((q 6) i9)), zJ cy (am 7) 4 (fun i9 => lN ((q 4) i9)), zI cy (am 8) 6 (fun i9 => nI ((q 12) i9)), zI cy (am 9) 6 (fun i9 => nI ((q 13) i9)), zI cy (am 10) 6 (fun i9 => nI ((q 14) i9)), zI cy (am 11) 6 (fun i9 => nI ((q 15) i9)), zB cy (am 12) 18 (fun i9 => nI ((q 7) i9)), zJ cy (am 13) 16 (fun i9 => lN (sc.2.2.2.2.2 i9)), zI cy (am 14) 4 (fun i9 => nI ((q 8) i9)), zI cy (am 15) 4 (fun i9 => nI ((q 10) i9)), zI cy (am 16) 4 (fun i9 => nI ((q 11) i9)), zJ cy (am 17) 4 (fun i9 => lN ((q 9) i9)), zI cy (am 18) 6 (fun i9 => nI ((q 16) i9)), zI cy (am 19) 6 (fun i9 => nI ((q 17) i9)), zI cy (am 20) 6 (fun i9 => nI ((q 18) i9)), zI cy (am 21) 6 (fun i9 => nI ((q 19) i9))]) (vp_Si (fun r => r = F_as g q x y)) 0 0 (fun _ => False) := by
  refine Met.ofW (cc := cX8_as) (maxL := 4) (ret := (some .int)) (by decide) rfl ?_
  intro p e s m args below meth c s₁ B hml hv
  obtain ⟨rfl, hP, hK, hE⟩ := hv
  have hx := B.exec
  have hb := B.bytes
  have hr := B.returns
  have hlk := B.notSynchronized
  have hts : ∀ w ∈ WB, w.before _ s = true := fun w h => atoms_spec B.pre w (List.mem_cons_of_mem _ h)
  have hown : s.vm.findClass RX8 = some m.cls := findClass_of_methodNamed B.named
  have hl := lv_entry ([.ref (am 0), .int x, .int y]) (n := 4) (Nat.le_of_ble_eq_true rfl)
  rw [lg_entry_eq]
  generalize (lg_sl ([.ref (am 0), .int x, .int y]) ++ List.replicate (4 - (lg_sl ([.ref (am 0), .int x, .int y])).length) Slot.unset).toArray = ls at hl ⊢
  have hl : lv_has ls 4 [(0, .ref (am 0)), (1, .int x), (2, .int y)] := hl
  have hn4 := hI.n
  have hn2 := hI.n2
  have hdry := hI.dry
  rcases hi_x : ix (g 0) x with _ | j
  · skip
    have hn_x := ix_none hi_x
    refine lv_aload_n hx hb dX8_as_0 rfl (lv_at hl 0 rfl) ?_
    refine lv_iload_n hx hb dX8_as_1 rfl (lv_at hl 1 rfl) ?_
    refine ro_Vi (As := [.int x]) (rest := []) (v := bI false) ⟨hx, hb, hml, hown, hts⟩ (c_X8_isOne_n l D cy ev am g q kb sc hI x hi_x) (kz_cwV 1 hts wm_397 wm_394 wm_395 wm_396 wm_5 rfl rfl (by decide +kernel) ⟨Nat.le_of_ble_eq_true rfl, Nat.le_of_ble_eq_true rfl⟩) hK hE hP (kz_recv 0 hK hP rfl rfl) rfl hl.1 rfl (Nat.le_of_ble_eq_true rfl) dX8_as_2 ⟨Nat.le_of_ble_eq_true rfl, Nat.le_of_ble_eq_true rfl⟩ ?_
    refine kt_ifB_ne (tgt := 11) hx hb dX8_as_5 (by decide) (fun c5 => absurd c5 (by decide)) (fun c5 => ?_)
    refine lv_bipush (v := (-101)) hx hb dX8_as_8 (by decide) ?_
    exact ro_ri hx hb hr hlk dX8_as_10 (by unfold F_as; rw [hi_x])
  · skip
    obtain ⟨hj, rfl⟩ := ix_some hi_x
    have hper := hI.per j hj
    rcases hi_y : ix (5) y with _ | k
    · skip
      have hn_y := ix_none hi_y
      refine lv_aload_n hx hb dX8_as_0 rfl (lv_at hl 0 rfl) ?_
      refine lv_iload_n hx hb dX8_as_1 rfl (lv_at hl 1 rfl) ?_
      refine ro_Vi (As := [.int (nI j)]) (rest := []) (v := bI true) ⟨hx, hb, hml, hown, hts⟩ (c_X8_isOne_t l D cy ev am g q kb sc hI j (by omega)) (kz_cwV 1 hts wm_397 wm_394 wm_395 wm_396 wm_5 rfl rfl (by decide +kernel) ⟨Nat.le_of_ble_eq_true rfl, Nat.le_of_ble_eq_true rfl⟩) hK hE hP (kz_recv 0 hK hP rfl rfl) rfl hl.1 rfl (Nat.le_of_ble_eq_true rfl) dX8_as_2 ⟨Nat.le_of_ble_eq_true rfl, Nat.le_of_ble_eq_true rfl⟩ ?_
      refine kt_ifB_ne (tgt := 11) hx hb dX8_as_5 (by decide) (fun c5 => ?_) (fun c5 => absurd c5 (by decide))
      refine lv_iload_n hx hb dX8_as_11 rfl (lv_at hl 2 rfl) ?_
      refine lv_iconst (v := nI 0) hx hb dX8_as_12 (by decide) ?_
      refine lv_iconst (v := nI 4) hx hb dX8_as_13 (by decide) ?_
      refine ro_Si (As := [.int y, .int (nI 0), .int (nI 4)]) (rest := []) (v := bI false) ⟨hx, hb, hml, hown, hts⟩ (c_X8_within_f l D cy ev (y) (nI 0) (nI 4) _ _ _ rfl (nI_toInt (by decide)) (nI_toInt (by decide)) (by omega)) (kz_cwS 3 hts wm_84 wm_82 wm_83 wm_5 rfl rfl (by decide +kernel) ⟨Nat.le_of_ble_eq_true rfl, Nat.le_of_ble_eq_true rfl⟩) hK hE (fun k q h => by simp at h) rfl hl.1 rfl (Nat.le_of_ble_eq_true rfl) dX8_as_14 ⟨Nat.le_of_ble_eq_true rfl, Nat.le_of_ble_eq_true rfl⟩ ?_
      refine kt_ifB_ne (tgt := 23) hx hb dX8_as_17 (by decide) (fun c17 => absurd c17 (by decide)) (fun c17 => ?_)
      refine lv_bipush (v := (-102)) hx hb dX8_as_20 (by decide) ?_
      exact ro_ri hx hb hr hlk dX8_as_22 (by unfold F_as; rw [hi_x, hi_y])
    · skip
      obtain ⟨hk, rfl⟩ := ix_some hi_y
      refine lv_aload_n hx hb dX8_as_0 rfl (lv_at hl 0 rfl) ?_
      refine lv_iload_n hx hb dX8_as_1 rfl (lv_at hl 1 rfl) ?_
      refine ro_Vi (As := [.int (nI j)]) (rest := []) (v := bI true) ⟨hx, hb, hml, hown, hts⟩ (c_X8_isOne_t l D cy ev am g q kb sc hI j (by omega)) (kz_cwV 1 hts wm_397 wm_394 wm_395 wm_396 wm_5 rfl rfl (by decide +kernel) ⟨Nat.le_of_ble_eq_true rfl, Nat.le_of_ble_eq_true rfl⟩) hK hE hP (kz_recv 0 hK hP rfl rfl) rfl hl.1 rfl (Nat.le_of_ble_eq_true rfl) dX8_as_2 ⟨Nat.le_of_ble_eq_true rfl, Nat.le_of_ble_eq_true rfl⟩ ?_
      refine kt_ifB_ne (tgt := 11) hx hb dX8_as_5 (by decide) (fun c5 => ?_) (fun c5 => absurd c5 (by decide))
      refine lv_iload_n hx hb dX8_as_11 rfl (lv_at hl 2 rfl) ?_
      refine lv_iconst (v := nI 0) hx hb dX8_as_12 (by decide) ?_
      refine lv_iconst (v := nI 4) hx hb dX8_as_13 (by decide) ?_
      refine ro_Si (As := [.int (nI k), .int (nI 0), .int (nI 4)]) (rest := []) (v := bI true) ⟨hx, hb, hml, hown, hts⟩ (c_X8_within_t l D cy ev (nI k) (nI 0) (nI 4) _ _ _ (nI_toInt (by omega)) (nI_toInt (by decide)) (nI_toInt (by decide)) (by omega)) (kz_cwS 3 hts wm_84 wm_82 wm_83 wm_5 rfl rfl (by decide +kernel) ⟨Nat.le_of_ble_eq_true rfl, Nat.le_of_ble_eq_true rfl⟩) hK hE (fun k q h => by simp at h) rfl hl.1 rfl (Nat.le_of_ble_eq_true rfl) dX8_as_14 ⟨Nat.le_of_ble_eq_true rfl, Nat.le_of_ble_eq_true rfl⟩ ?_
      refine kt_ifB_ne (tgt := 23) hx hb dX8_as_17 (by decide) (fun c17 => ?_) (fun c17 => absurd c17 (by decide))
      refine lv_aload_n hx hb dX8_as_23 rfl (lv_at hl 0 rfl) ?_
      refine va_get (ci := 8) (C := RX8) (T := TX8) (N := 38) hx hb hts inX8 hown hK hP 0 rfl rfl 3 (by decide) (hts _ wm_45) (fun _ h9 => h9) rfl dX8_as_24 ?_
      refine lv_iload_n hx hb dX8_as_27 rfl (lv_at hl 1 rfl) ?_
      refine kn_iald (v := nI ((q 0) j)) hx hb hK hP 1 rfl (by omega) (by decide) rfl dX8_as_28 ?_
      refine lv_istore_n (lv' := [(3, .int (nI ((q 0) j))), (0, .ref (am 0)), (1, .int (nI j)), (2, .int (nI k))]) hx hb dX8_as_29 rfl hl (by decide) rfl (fun ls hl => ?_)
      refine lv_iload_n hx hb dX8_as_30 rfl (lv_at hl 3 rfl) ?_
      refine kt_if_eq (tgt := 49) hx hb dX8_as_31 (by decide) (nI_toInt (by omega)) (fun c31 => ?_) (fun c31 => ?_)
      · skip
        refine lv_iload_n hx hb dX8_as_49 rfl (lv_at hl 2 rfl) ?_
        refine lv_goto (tgt := 54) hx hb dX8_as_50 (by decide) ?_
        exact ro_ri hx hb hr hlk dX8_as_54 (by unfold F_as; rw [hi_x, hi_y]; dsimp only; rw [show isK (q 0 j) k = true from by unfold isK; simp; omega]; rfl)
      · skip
        refine lv_iload_n hx hb dX8_as_34 rfl (lv_at hl 0 rfl) ?_
        refine lv_iload_n hx hb dX8_as_35 rfl (lv_at hl 3 rfl) ?_
        refine kt_icmp_eq (tgt := 49) hx hb dX8_as_36 (by decide) (nI_toInt (by omega)) (nI_toInt (by omega)) (fun c36 => ?_) (fun c36 => ?_)
        · skip
          refine lv_iload_n hx hb dX8_as_49 rfl (lv_at hl 2 rfl) ?_
          refine lv_goto (tgt := 54) hx hb dX8_as_50 (by decide) ?_
          exact ro_ri hx hb hr hlk dX8_as_54 (by unfold F_as; rw [hi_x, hi_y]; dsimp only; rw [show isK (q 0 j) k = true from by unfold isK; simp; omega]; rfl)
        · skip
          refine lv_iload_n hx hb dX8_as_39 rfl (lv_at hl 3 rfl) ?_
          refine lv_iconst (v := nI 1) hx hb dX8_as_40 (by decide) ?_
          refine kt_icmp_ne (tgt := 53) hx hb dX8_as_41 (by decide) (nI_toInt (by omega)) (nI_toInt (by decide)) (fun c41 => ?_) (fun c41 => ?_)
          · skip
            refine lv_iconst (v := (-1)) hx hb dX8_as_53 (by decide) ?_
            exact ro_ri hx hb hr hlk dX8_as_54 (by unfold F_as; rw [hi_x, hi_y]; dsimp only; rw [show isK (q 0 j) k = false from by unfold isK; simp; omega]; rfl)
          · skip
            refine lv_iload_n hx hb dX8_as_44 rfl (lv_at hl 0 rfl) ?_
            refine lv_iconst (v := nI 4) hx hb dX8_as_45 (by decide) ?_
            refine kt_icmp_ne (tgt := 53) hx hb dX8_as_46 (by decide) (nI_toInt (by omega)) (nI_toInt (by decide)) (fun c46 => ?_) (fun c46 => ?_)
            · skip
              refine lv_iconst (v := (-1)) hx hb dX8_as_53 (by decide) ?_
              exact ro_ri hx hb hr hlk dX8_as_54 (by unfold F_as; rw [hi_x, hi_y]; dsimp only; rw [show isK (q 0 j) k = false from by unfold isK; simp; omega]; rfl)
            · skip
              refine lv_iload_n hx hb dX8_as_49 rfl (lv_at hl 2 rfl) ?_
              refine lv_goto (tgt := 54) hx hb dX8_as_50 (by decide) ?_
              exact ro_ri hx hb hr hlk dX8_as_54 (by unfold F_as; rw [hi_x, hi_y]; dsimp only; rw [show isK (q 0 j) k = true from by unfold isK; simp; omega]; rfl)
set_option maxHeartbeats 4000000 in
set_option maxRecDepth 100000 in
theorem c_X8_weightAll (l : Launch) (D : va_G) (cy : Nat → ClassId) (ev : kz_V) (am : Nat → Nat) (g : Nat → Nat) (q : Nat → Nat → Nat) (kb : Bool) (sc : MSc) (hI : YI g q) : Met l yX8_weightAll (.code yX8_weightAll cX8_weightAll 4 (some .long) :: WB) { frames := 0, cells := 0, slots := 0, locals := 0 } (ro_Pc D cy ev [.ref (am 0)] [zO (am 0) 8 [.int (nI (g 4)), .int (nI (g 0)), .int (nI (g 1)), .ref (am 1), .ref (am 2), .ref (am 3), .ref (am 4), .ref (am 5), .ref (am 6), .ref (am 7), .int (nI (g 9)), .int (nI (g 2)), .ref (am 8), .ref (am 9), .ref (am 10), .ref (am 11), .int (nI (g 5)), .int (nI (g 3)), .ref (am 12), .int (bI sc.1), .int (nI sc.2.1), .ref (am 13), .int sc.2.2.1, .long sc.2.2.2.1, .int (bI kb), .int (nI (g 6)), .int (nI (g 7)), .int (nI (g 10)), .int (nI (g 8)), .ref (am 14), .ref (am 15), .ref (am 16), .ref (am 17), .ref (am 18), .ref (am 19), .ref (am 20), .ref (am 21), .long sc.2.2.2.2.1], zI cy (am 1) 4 (fun i9 => nI ((q 0) i9)), zI cy (am 2) 4 (fun i9 => nI ((q 1) i9)), zI cy (am 3) 4 (fun i9 => nI ((q 2) i9)), zI cy (am 4) 4 (fun i9 => nI ((q 3) i9)), zI cy (am 5) 4 (fun i9 => nI ((q 5) i9)), zI cy (am 6) 4 (fun i9 => nI ((q 6) i9)), zJ cy (am 7) 4 (fun i9 => lN ((q 4) i9)), zI cy (am 8) 6 (fun i9 => nI ((q 12) i9)), zI cy (am 9) 6 (fun i9 => nI ((q 13) i9)), zI cy (am 10) 6 (fun i9 => nI ((q 14) i9)), zI cy (am 11) 6 (fun i9 => nI ((q 15) i9)), zB cy (am 12) 18 (fun i9 => nI ((q 7) i9)), zJ cy (am 13) 16 (fun i9 => lN (sc.2.2.2.2.2 i9)), zI cy (am 14) 4 (fun i9 => nI ((q 8) i9)), zI cy (am 15) 4 (fun i9 => nI ((q 10) i9)), zI cy (am 16) 4 (fun i9 => nI ((q 11) i9)), zJ cy (am 17) 4 (fun i9 => lN ((q 9) i9)), zI cy (am 18) 6 (fun i9 => nI ((q 16) i9)), zI cy (am 19) 6 (fun i9 => nI ((q 17) i9)), zI cy (am 20) 6 (fun i9 => nI ((q 18) i9)), zI cy (am 21) 6 (fun i9 => nI ((q 19) i9))]) (vp_Sl (fun r => r = lN (sm (q 4) (g 0)))) 0 0 (fun _ => False) := by
  refine Met.ofW (cc := cX8_weightAll) (maxL := 4) (ret := (some .long)) (by decide) rfl ?_
  intro p e s m args below meth c s₁ B hml hv
  obtain ⟨rfl, hP, hK, hE⟩ := hv
  have hx := B.exec
  have hb := B.bytes
  have hr := B.returns
  have hlk := B.notSynchronized
  have hts : ∀ w ∈ WB, w.before _ s = true := fun w h => atoms_spec B.pre w (List.mem_cons_of_mem _ h)
  have hown : s.vm.findClass RX8 = some m.cls := findClass_of_methodNamed B.named
  have hl := lv_entry ([.ref (am 0)]) (n := 4) (Nat.le_of_ble_eq_true rfl)
  rw [lg_entry_eq]
  generalize (lg_sl ([.ref (am 0)]) ++ List.replicate (4 - (lg_sl ([.ref (am 0)])).length) Slot.unset).toArray = ls at hl ⊢
  have hl : lv_has ls 4 [(0, .ref (am 0))] := hl
  have hn4 := hI.n
  have hn2 := hI.n2
  have hdry := hI.dry
  refine lv_lconst (v := lN 0) hx hb dX8_weightAll_0 (by decide) ?_
  refine lv_lstore_n (lv' := [(1, .long (lN 0)), (0, .ref (am 0))]) hx hb dX8_weightAll_1 rfl hl (by decide) rfl (fun ls hl => ?_)
  refine lv_iconst (v := nI 0) hx hb dX8_weightAll_2 (by decide) ?_
  refine lv_istore_n (lv' := [(3, .int (nI 0)), (1, .long (lN 0)), (0, .ref (am 0))]) hx hb dX8_weightAll_3 rfl hl (by decide) rfl (fun ls hl => ?_)
  refine kn_loopR (α := Unit) (g 0) (fun i _ ls => (i ≤ g 0) ∧ lv_has ls 4 [(0, .ref (am 0)), (1, .long (lN (sm (q 4) i))), (3, .int (nI i))]) (0) (()) ⟨(Nat.zero_le _), lv_sub hl [2, 1, 0] rfl⟩ (fun i _ ls hI ih4 => ?_)
  obtain ⟨hi, hl⟩ := hI
  refine lv_iload_n hx hb dX8_weightAll_4 rfl (lv_at hl 2 rfl) ?_
  refine lv_aload_n hx hb dX8_weightAll_5 rfl (lv_at hl 0 rfl) ?_
  refine va_get (ci := 8) (C := RX8) (T := TX8) (N := 38) hx hb hts inX8 hown hK hP 0 rfl rfl 1 (by decide) (hts _ wm_309) (fun _ h9 => h9) rfl dX8_weightAll_6 ?_
  refine kt_icmp_ge (tgt := 27) hx hb dX8_weightAll_9 (by decide) (nI_toInt (by omega)) (nI_toInt (by omega)) (fun c9 => ?_) (fun c9 => ?_)
  · skip
    refine lv_lload_n hx hb dX8_weightAll_27 rfl (lv_at hl 1 rfl) ?_
    exact ro_rl hx hb hr hlk dX8_weightAll_28 (by rw [show i = g 0 by omega])
  · skip
    refine lv_lload_n hx hb dX8_weightAll_12 rfl (lv_at hl 1 rfl) ?_
    refine lv_aload_n hx hb dX8_weightAll_13 rfl (lv_at hl 0 rfl) ?_
    refine va_get (ci := 8) (C := RX8) (T := TX8) (N := 38) hx hb hts inX8 hown hK hP 0 rfl rfl 9 (by decide) (hts _ wm_51) (fun _ h9 => h9) rfl dX8_weightAll_14 ?_
    refine lv_iload_n hx hb dX8_weightAll_17 rfl (lv_at hl 2 rfl) ?_
    refine kn_lald (v := lN ((q 4) i)) hx hb hK hP 7 rfl (by omega) (by decide) rfl dX8_weightAll_18 ?_
    refine kn_ladd hx hb dX8_weightAll_19 ?_
    refine lv_lstore_n (lv' := [(1, .long (lN ((sm (q 4) i) + ((q 4) i)))), (0, .ref (am 0)), (3, .int (nI i))]) hx hb dX8_weightAll_20 rfl hl (by decide) rfl (fun ls hl => ?_)
    refine kn_iinc (k := 2) (x := i) (d := 1) (lv' := [(3, .int (nI (i + 1))), (1, .long (lN ((sm (q 4) i) + ((q 4) i)))), (0, .ref (am 0))]) hx hb dX8_weightAll_21 hl rfl (by decide) rfl (fun ls hl => ?_)
    refine lv_goto (tgt := 4) hx hb dX8_weightAll_24 (by decide) ?_
    exact ih4 (()) _ (by omega) ⟨(by omega), lv_sub hl [2, 1, 0] rfl⟩
set_option maxHeartbeats 4000000 in
set_option maxRecDepth 100000 in
theorem c_X8_belief (l : Launch) (D : va_G) (cy : Nat → ClassId) (ev : kz_V) (am : Nat → Nat) (g : Nat → Nat) (q : Nat → Nat → Nat) (kb : Bool) (sc : MSc) (hI : YI g q) (x y : Int32) : Met l yX8_belief (.code yX8_belief cX8_belief 3 (some .long) :: WB) { frames := 2, cells := 0, slots := 0, locals := 55 } (ro_Pc D cy ev [.ref (am 0), .int x, .int y] [zO (am 0) 8 [.int (nI (g 4)), .int (nI (g 0)), .int (nI (g 1)), .ref (am 1), .ref (am 2), .ref (am 3), .ref (am 4), .ref (am 5), .ref (am 6), .ref (am 7), .int (nI (g 9)), .int (nI (g 2)), .ref (am 8), .ref (am 9), .ref (am 10), .ref (am 11), .int (nI (g 5)), .int (nI (g 3)), .ref (am 12), .int (bI sc.1), .int (nI sc.2.1), .ref (am 13), .int sc.2.2.1, .long sc.2.2.2.1, .int (bI kb), .int (nI (g 6)), .int (nI (g 7)), .int (nI (g 10)), .int (nI (g 8)), .ref (am 14), .ref (am 15), .ref (am 16), .ref (am 17), .ref (am 18), .ref (am 19), .ref (am 20), .ref (am 21), .long sc.2.2.2.2.1], zI cy (am 1) 4 (fun i9 => nI ((q 0) i9)), zI cy (am 2) 4 (fun i9 => nI ((q 1) i9)), zI cy (am 3) 4 (fun i9 => nI ((q 2) i9)), zI cy (am 4) 4 (fun i9 => nI ((q 3) i9)), zI cy (am 5) 4 (fun i9 => nI ((q 5) i9)), zI cy (am 6) 4 (fun i9 => nI ((q 6) i9)), zJ cy (am 7) 4 (fun i9 => lN ((q 4) i9)), zI cy (am 8) 6 (fun i9 => nI ((q 12) i9)), zI cy (am 9) 6 (fun i9 => nI ((q 13) i9)), zI cy (am 10) 6 (fun i9 => nI ((q 14) i9)), zI cy (am 11) 6 (fun i9 => nI ((q 15) i9)), zB cy (am 12) 18 (fun i9 => nI ((q 7) i9)), zJ cy (am 13) 16 (fun i9 => lN (sc.2.2.2.2.2 i9)), zI cy (am 14) 4 (fun i9 => nI ((q 8) i9)), zI cy (am 15) 4 (fun i9 => nI ((q 10) i9)), zI cy (am 16) 4 (fun i9 => nI ((q 11) i9)), zJ cy (am 17) 4 (fun i9 => lN ((q 9) i9)), zI cy (am 18) 6 (fun i9 => nI ((q 16) i9)), zI cy (am 19) 6 (fun i9 => nI ((q 17) i9)), zI cy (am 20) 6 (fun i9 => nI ((q 18) i9)), zI cy (am 21) 6 (fun i9 => nI ((q 19) i9))]) (vp_Sl (fun r => r = F_belief g q x y)) 0 0 (fun _ => False) := by
  refine Met.ofW (cc := cX8_belief) (maxL := 3) (ret := (some .long)) (by decide) rfl ?_
  intro p e s m args below meth c s₁ B hml hv
  obtain ⟨rfl, hP, hK, hE⟩ := hv
  have hx := B.exec
  have hb := B.bytes
  have hr := B.returns
  have hlk := B.notSynchronized
  have hts : ∀ w ∈ WB, w.before _ s = true := fun w h => atoms_spec B.pre w (List.mem_cons_of_mem _ h)
  have hown : s.vm.findClass RX8 = some m.cls := findClass_of_methodNamed B.named
  have hl := lv_entry ([.ref (am 0), .int x, .int y]) (n := 3) (Nat.le_of_ble_eq_true rfl)
  rw [lg_entry_eq]
  generalize (lg_sl ([.ref (am 0), .int x, .int y]) ++ List.replicate (3 - (lg_sl ([.ref (am 0), .int x, .int y])).length) Slot.unset).toArray = ls at hl ⊢
  have hl : lv_has ls 3 [(0, .ref (am 0)), (1, .int x), (2, .int y)] := hl
  have hn4 := hI.n
  have hn2 := hI.n2
  have hdry := hI.dry
  rcases hi_x : ix (g 0) x with _ | j
  · skip
    have hn_x := ix_none hi_x
    refine lv_aload_n hx hb dX8_belief_0 rfl (lv_at hl 0 rfl) ?_
    refine lv_iload_n hx hb dX8_belief_1 rfl (lv_at hl 1 rfl) ?_
    refine ro_Vi (As := [.int x]) (rest := []) (v := bI false) ⟨hx, hb, hml, hown, hts⟩ (c_X8_isOne_n l D cy ev am g q kb sc hI x hi_x) (kz_cwV 1 hts wm_397 wm_394 wm_395 wm_396 wm_5 rfl rfl (by decide +kernel) ⟨Nat.le_of_ble_eq_true rfl, Nat.le_of_ble_eq_true rfl⟩) hK hE hP (kz_recv 0 hK hP rfl rfl) rfl hl.1 rfl (Nat.le_of_ble_eq_true rfl) dX8_belief_2 ⟨Nat.le_of_ble_eq_true rfl, Nat.le_of_ble_eq_true rfl⟩ ?_
    refine kt_ifB_ne (tgt := 12) hx hb dX8_belief_5 (by decide) (fun c5 => absurd c5 (by decide)) (fun c5 => ?_)
    refine lv_ldc2 (v := (-101)) hx hb hown (hts _ wm_513) dX8_belief_8 ?_
    exact ro_rl hx hb hr hlk dX8_belief_11 (by unfold F_belief; rw [hi_x])
  · skip
    obtain ⟨hj, rfl⟩ := ix_some hi_x
    have hper := hI.per j hj
    rcases hi_y : ix (2) y with _ | k
    · skip
      have hn_y := ix_none hi_y
      refine lv_aload_n hx hb dX8_belief_0 rfl (lv_at hl 0 rfl) ?_
      refine lv_iload_n hx hb dX8_belief_1 rfl (lv_at hl 1 rfl) ?_
      refine ro_Vi (As := [.int (nI j)]) (rest := []) (v := bI true) ⟨hx, hb, hml, hown, hts⟩ (c_X8_isOne_t l D cy ev am g q kb sc hI j (by omega)) (kz_cwV 1 hts wm_397 wm_394 wm_395 wm_396 wm_5 rfl rfl (by decide +kernel) ⟨Nat.le_of_ble_eq_true rfl, Nat.le_of_ble_eq_true rfl⟩) hK hE hP (kz_recv 0 hK hP rfl rfl) rfl hl.1 rfl (Nat.le_of_ble_eq_true rfl) dX8_belief_2 ⟨Nat.le_of_ble_eq_true rfl, Nat.le_of_ble_eq_true rfl⟩ ?_
      refine kt_ifB_ne (tgt := 12) hx hb dX8_belief_5 (by decide) (fun c5 => ?_) (fun c5 => absurd c5 (by decide))
      refine lv_iload_n hx hb dX8_belief_12 rfl (lv_at hl 2 rfl) ?_
      refine lv_iconst (v := nI 0) hx hb dX8_belief_13 (by decide) ?_
      refine lv_iconst (v := nI 1) hx hb dX8_belief_14 (by decide) ?_
      refine ro_Si (As := [.int y, .int (nI 0), .int (nI 1)]) (rest := []) (v := bI false) ⟨hx, hb, hml, hown, hts⟩ (c_X8_within_f l D cy ev (y) (nI 0) (nI 1) _ _ _ rfl (nI_toInt (by decide)) (nI_toInt (by decide)) (by omega)) (kz_cwS 3 hts wm_84 wm_82 wm_83 wm_5 rfl rfl (by decide +kernel) ⟨Nat.le_of_ble_eq_true rfl, Nat.le_of_ble_eq_true rfl⟩) hK hE (fun k q h => by simp at h) rfl hl.1 rfl (Nat.le_of_ble_eq_true rfl) dX8_belief_15 ⟨Nat.le_of_ble_eq_true rfl, Nat.le_of_ble_eq_true rfl⟩ ?_
      refine kt_ifB_eq (tgt := 38) hx hb dX8_belief_18 (by decide) (fun c18 => ?_) (fun c18 => absurd c18 (by decide))
      refine lv_ldc2 (v := (-102)) hx hb hown (hts _ wm_514) dX8_belief_38 ?_
      exact ro_rl hx hb hr hlk dX8_belief_41 (by unfold F_belief; rw [hi_x, hi_y])
    · skip
      obtain ⟨hk, rfl⟩ := ix_some hi_y
      refine lv_aload_n hx hb dX8_belief_0 rfl (lv_at hl 0 rfl) ?_
      refine lv_iload_n hx hb dX8_belief_1 rfl (lv_at hl 1 rfl) ?_
      refine ro_Vi (As := [.int (nI j)]) (rest := []) (v := bI true) ⟨hx, hb, hml, hown, hts⟩ (c_X8_isOne_t l D cy ev am g q kb sc hI j (by omega)) (kz_cwV 1 hts wm_397 wm_394 wm_395 wm_396 wm_5 rfl rfl (by decide +kernel) ⟨Nat.le_of_ble_eq_true rfl, Nat.le_of_ble_eq_true rfl⟩) hK hE hP (kz_recv 0 hK hP rfl rfl) rfl hl.1 rfl (Nat.le_of_ble_eq_true rfl) dX8_belief_2 ⟨Nat.le_of_ble_eq_true rfl, Nat.le_of_ble_eq_true rfl⟩ ?_
      refine kt_ifB_ne (tgt := 12) hx hb dX8_belief_5 (by decide) (fun c5 => ?_) (fun c5 => absurd c5 (by decide))
      refine lv_iload_n hx hb dX8_belief_12 rfl (lv_at hl 2 rfl) ?_
      refine lv_iconst (v := nI 0) hx hb dX8_belief_13 (by decide) ?_
      refine lv_iconst (v := nI 1) hx hb dX8_belief_14 (by decide) ?_
      refine ro_Si (As := [.int (nI k), .int (nI 0), .int (nI 1)]) (rest := []) (v := bI true) ⟨hx, hb, hml, hown, hts⟩ (c_X8_within_t l D cy ev (nI k) (nI 0) (nI 1) _ _ _ (nI_toInt (by omega)) (nI_toInt (by decide)) (nI_toInt (by decide)) (by omega)) (kz_cwS 3 hts wm_84 wm_82 wm_83 wm_5 rfl rfl (by decide +kernel) ⟨Nat.le_of_ble_eq_true rfl, Nat.le_of_ble_eq_true rfl⟩) hK hE (fun k q h => by simp at h) rfl hl.1 rfl (Nat.le_of_ble_eq_true rfl) dX8_belief_15 ⟨Nat.le_of_ble_eq_true rfl, Nat.le_of_ble_eq_true rfl⟩ ?_
      refine kt_ifB_eq (tgt := 38) hx hb dX8_belief_18 (by decide) (fun c18 => absurd c18 (by decide)) (fun c18 => ?_)
      refine lv_aload_n hx hb dX8_belief_21 rfl (lv_at hl 0 rfl) ?_
      refine va_get (ci := 8) (C := RX8) (T := TX8) (N := 38) hx hb hts inX8 hown hK hP 0 rfl rfl 9 (by decide) (hts _ wm_51) (fun _ h9 => h9) rfl dX8_belief_22 ?_
      refine lv_iload_n hx hb dX8_belief_25 rfl (lv_at hl 1 rfl) ?_
      refine kn_lald (v := lN ((q 4) j)) hx hb hK hP 7 rfl (by omega) (by decide) rfl dX8_belief_26 ?_
      refine lv_aload_n hx hb dX8_belief_27 rfl (lv_at hl 0 rfl) ?_
      refine ro_Vl (As := []) (rest := [.long (lN ((q 4) j))]) (v := lN (sm (q 4) (g 0))) ⟨hx, hb, hml, hown, hts⟩ (c_X8_weightAll l D cy ev am g q kb sc hI) (kz_cwV 0 hts wm_518 wm_515 wm_516 wm_517 wm_5 rfl rfl (by decide +kernel) ⟨Nat.le_of_ble_eq_true rfl, Nat.le_of_ble_eq_true rfl⟩) hK hE hP (kz_recv 0 hK hP rfl rfl) rfl hl.1 rfl (Nat.le_of_ble_eq_true rfl) dX8_belief_28 ⟨Nat.le_of_ble_eq_true rfl, Nat.le_of_ble_eq_true rfl⟩ ?_
      refine lv_iload_n hx hb dX8_belief_31 rfl (lv_at hl 2 rfl) ?_
      have hsl := hI.sml
      have hsp := hI.pos (by omega)
      refine ro_Sl (As := [.long (lN ((q 4) j)), .long (lN (sm (q 4) (g 0))), .int (nI k)]) (rest := []) (v := lN (lowT ((q 4) j) (sm (q 4) (g 0)) k)) ⟨hx, hb, hml, hown, hts⟩ (c_X8_lowest l D cy ev ((q 4) j) (sm (q 4) (g 0)) k (by omega) (by omega) (by omega) (by omega)) (kz_cwS 3 hts wm_521 wm_519 wm_520 wm_5 rfl rfl (by decide +kernel) ⟨Nat.le_of_ble_eq_true rfl, Nat.le_of_ble_eq_true rfl⟩) hK hE (fun k q h => by simp at h) rfl hl.1 rfl (Nat.le_of_ble_eq_true rfl) dX8_belief_32 ⟨Nat.le_of_ble_eq_true rfl, Nat.le_of_ble_eq_true rfl⟩ ?_
      refine lv_goto (tgt := 41) hx hb dX8_belief_35 (by decide) ?_
      exact ro_rl hx hb hr hlk dX8_belief_41 (by unfold F_belief; rw [hi_x, hi_y])
set_option maxHeartbeats 4000000 in
set_option maxRecDepth 100000 in
theorem c_X8_judgedNow (l : Launch) (D : va_G) (cy : Nat → ClassId) (ev : kz_V) (am : Nat → Nat) (g : Nat → Nat) (q : Nat → Nat → Nat) (kb : Bool) (sc : MSc) (hI : YI g q) (hpos : 0 < g 0) : Met l yX8_judgedNow (.code yX8_judgedNow cX8_judgedNow 3 (some .int) :: WB) { frames := 0, cells := 0, slots := 0, locals := 0 } (ro_Pc D cy ev [.ref (am 0)] [zO (am 0) 8 [.int (nI (g 4)), .int (nI (g 0)), .int (nI (g 1)), .ref (am 1), .ref (am 2), .ref (am 3), .ref (am 4), .ref (am 5), .ref (am 6), .ref (am 7), .int (nI (g 9)), .int (nI (g 2)), .ref (am 8), .ref (am 9), .ref (am 10), .ref (am 11), .int (nI (g 5)), .int (nI (g 3)), .ref (am 12), .int (bI sc.1), .int (nI sc.2.1), .ref (am 13), .int sc.2.2.1, .long sc.2.2.2.1, .int (bI kb), .int (nI (g 6)), .int (nI (g 7)), .int (nI (g 10)), .int (nI (g 8)), .ref (am 14), .ref (am 15), .ref (am 16), .ref (am 17), .ref (am 18), .ref (am 19), .ref (am 20), .ref (am 21), .long sc.2.2.2.2.1], zI cy (am 1) 4 (fun i9 => nI ((q 0) i9)), zI cy (am 2) 4 (fun i9 => nI ((q 1) i9)), zI cy (am 3) 4 (fun i9 => nI ((q 2) i9)), zI cy (am 4) 4 (fun i9 => nI ((q 3) i9)), zI cy (am 5) 4 (fun i9 => nI ((q 5) i9)), zI cy (am 6) 4 (fun i9 => nI ((q 6) i9)), zJ cy (am 7) 4 (fun i9 => lN ((q 4) i9)), zI cy (am 8) 6 (fun i9 => nI ((q 12) i9)), zI cy (am 9) 6 (fun i9 => nI ((q 13) i9)), zI cy (am 10) 6 (fun i9 => nI ((q 14) i9)), zI cy (am 11) 6 (fun i9 => nI ((q 15) i9)), zB cy (am 12) 18 (fun i9 => nI ((q 7) i9)), zJ cy (am 13) 16 (fun i9 => lN (sc.2.2.2.2.2 i9)), zI cy (am 14) 4 (fun i9 => nI ((q 8) i9)), zI cy (am 15) 4 (fun i9 => nI ((q 10) i9)), zI cy (am 16) 4 (fun i9 => nI ((q 11) i9)), zJ cy (am 17) 4 (fun i9 => lN ((q 9) i9)), zI cy (am 18) 6 (fun i9 => nI ((q 16) i9)), zI cy (am 19) 6 (fun i9 => nI ((q 17) i9)), zI cy (am 20) 6 (fun i9 => nI ((q 18) i9)), zI cy (am 21) 6 (fun i9 => nI ((q 19) i9))]) (vp_Si (fun r => r = nI (amx (q 4) (g 0)))) 0 0 (fun _ => False) := by
  refine Met.ofW (cc := cX8_judgedNow) (maxL := 3) (ret := (some .int)) (by decide) rfl ?_
  intro p e s m args below meth c s₁ B hml hv
  obtain ⟨rfl, hP, hK, hE⟩ := hv
  have hx := B.exec
  have hb := B.bytes
  have hr := B.returns
  have hlk := B.notSynchronized
  have hts : ∀ w ∈ WB, w.before _ s = true := fun w h => atoms_spec B.pre w (List.mem_cons_of_mem _ h)
  have hown : s.vm.findClass RX8 = some m.cls := findClass_of_methodNamed B.named
  have hl := lv_entry ([.ref (am 0)]) (n := 3) (Nat.le_of_ble_eq_true rfl)
  rw [lg_entry_eq]
  generalize (lg_sl ([.ref (am 0)]) ++ List.replicate (3 - (lg_sl ([.ref (am 0)])).length) Slot.unset).toArray = ls at hl ⊢
  have hl : lv_has ls 3 [(0, .ref (am 0))] := hl
  have hn4 := hI.n
  have hn2 := hI.n2
  have hdry := hI.dry
  refine lv_iconst (v := nI 0) hx hb dX8_judgedNow_0 (by decide) ?_
  refine lv_istore_n (lv' := [(1, .int (nI 0)), (0, .ref (am 0))]) hx hb dX8_judgedNow_1 rfl hl (by decide) rfl (fun ls hl => ?_)
  refine lv_iconst (v := nI 1) hx hb dX8_judgedNow_2 (by decide) ?_
  refine lv_istore_n (lv' := [(2, .int (nI 1)), (1, .int (nI 0)), (0, .ref (am 0))]) hx hb dX8_judgedNow_3 rfl hl (by decide) rfl (fun ls hl => ?_)
  have hl : lv_has ls 3 [(2, .int (nI 1)), (1, .int (nI (amx (q 4) 1))), (0, .ref (am 0))] := by
    have e9 : nI 0 = nI (amx (q 4) 1) := (by simp [amx])
    rw [← e9]
    exact hl
  refine kn_loopR (α := Unit) (g 0) (fun i _ ls => (1 ≤ i) ∧ (i ≤ g 0) ∧ lv_has ls 3 [(0, .ref (am 0)), (1, .int (nI (amx (q 4) i))), (2, .int (nI i))]) (1) (()) ⟨(by decide), hpos, lv_sub hl [2, 1, 0] rfl⟩ (fun i _ ls hI ih4 => ?_)
  obtain ⟨h1, hi, hl⟩ := hI
  have ha := amx_lt (q 4) i (by omega)
  refine lv_iload_n hx hb dX8_judgedNow_4 rfl (lv_at hl 2 rfl) ?_
  refine lv_aload_n hx hb dX8_judgedNow_5 rfl (lv_at hl 0 rfl) ?_
  refine va_get (ci := 8) (C := RX8) (T := TX8) (N := 38) hx hb hts inX8 hown hK hP 0 rfl rfl 1 (by decide) (hts _ wm_309) (fun _ h9 => h9) rfl dX8_judgedNow_6 ?_
  refine kt_icmp_ge (tgt := 40) hx hb dX8_judgedNow_9 (by decide) (nI_toInt (by omega)) (nI_toInt (by omega)) (fun c9 => ?_) (fun c9 => ?_)
  · skip
    refine lv_iload_n hx hb dX8_judgedNow_40 rfl (lv_at hl 1 rfl) ?_
    exact ro_ri hx hb hr hlk dX8_judgedNow_41 (by rw [show i = g 0 by omega])
  · skip
    refine lv_aload_n hx hb dX8_judgedNow_12 rfl (lv_at hl 0 rfl) ?_
    refine va_get (ci := 8) (C := RX8) (T := TX8) (N := 38) hx hb hts inX8 hown hK hP 0 rfl rfl 9 (by decide) (hts _ wm_51) (fun _ h9 => h9) rfl dX8_judgedNow_13 ?_
    refine lv_iload_n hx hb dX8_judgedNow_16 rfl (lv_at hl 2 rfl) ?_
    refine kn_lald (v := lN ((q 4) i)) hx hb hK hP 7 rfl (by omega) (by decide) rfl dX8_judgedNow_17 ?_
    have hbi := (hI.per i (by omega)).2.2.2
    refine lv_aload_n hx hb dX8_judgedNow_18 rfl (lv_at hl 0 rfl) ?_
    refine va_get (ci := 8) (C := RX8) (T := TX8) (N := 38) hx hb hts inX8 hown hK hP 0 rfl rfl 9 (by decide) (hts _ wm_51) (fun _ h9 => h9) rfl dX8_judgedNow_19 ?_
    refine lv_iload_n hx hb dX8_judgedNow_22 rfl (lv_at hl 1 rfl) ?_
    refine kn_lald (v := lN ((q 4) (amx (q 4) i))) hx hb hK hP 7 rfl (by omega) (by decide) rfl dX8_judgedNow_23 ?_
    have hbamx__q_4__i := (hI.per (amx (q 4) i) (by omega)).2.2.2
    refine kt_lcmp_le (tgt := 32) hx hb dX8_judgedNow_24 dX8_judgedNow_25 (by decide) (pk_lT (by omega)) (pk_lT (by omega)) (fun c24 => ?_) (fun c24 => ?_)
    · skip
      refine lv_iload_n hx hb dX8_judgedNow_32 rfl (lv_at hl 1 rfl) ?_
      refine lv_istore_n (lv' := [(1, .int (nI (amx (q 4) i))), (0, .ref (am 0)), (2, .int (nI i))]) hx hb dX8_judgedNow_33 rfl hl (by decide) rfl (fun ls hl => ?_)
      refine kn_iinc (k := 2) (x := i) (d := 1) (lv' := [(2, .int (nI (i + 1))), (1, .int (nI (amx (q 4) i))), (0, .ref (am 0))]) hx hb dX8_judgedNow_34 hl rfl (by decide) rfl (fun ls hl => ?_)
      refine lv_goto (tgt := 4) hx hb dX8_judgedNow_37 (by decide) ?_
      have hl : lv_has ls 3 [(2, .int (nI (i + 1))), (1, .int (nI (amx (q 4) (i + 1)))), (0, .ref (am 0))] := by
        have e9 : nI (amx (q 4) i) = nI (amx (q 4) (i + 1)) := congrArg nI (amx_no (by omega))
        rw [← e9]
        exact hl
      exact ih4 (()) _ (by omega) ⟨(by omega), (by omega), lv_sub hl [2, 1, 0] rfl⟩
    · skip
      refine lv_iload_n hx hb dX8_judgedNow_28 rfl (lv_at hl 2 rfl) ?_
      refine lv_goto (tgt := 33) hx hb dX8_judgedNow_29 (by decide) ?_
      refine lv_istore_n (lv' := [(1, .int (nI i)), (0, .ref (am 0)), (2, .int (nI i))]) hx hb dX8_judgedNow_33 rfl hl (by decide) rfl (fun ls hl => ?_)
      refine kn_iinc (k := 2) (x := i) (d := 1) (lv' := [(2, .int (nI (i + 1))), (1, .int (nI i)), (0, .ref (am 0))]) hx hb dX8_judgedNow_34 hl rfl (by decide) rfl (fun ls hl => ?_)
      refine lv_goto (tgt := 4) hx hb dX8_judgedNow_37 (by decide) ?_
      have hl : lv_has ls 3 [(2, .int (nI (i + 1))), (1, .int (nI (amx (q 4) (i + 1)))), (0, .ref (am 0))] := by
        have e9 : nI i = nI (amx (q 4) (i + 1)) := congrArg nI (amx_yes (by omega))
        rw [← e9]
        exact hl
      exact ih4 (()) _ (by omega) ⟨(by omega), (by omega), lv_sub hl [2, 1, 0] rfl⟩
set_option maxHeartbeats 4000000 in
set_option maxRecDepth 100000 in
theorem c_X8_judged (l : Launch) (D : va_G) (cy : Nat → ClassId) (ev : kz_V) (am : Nat → Nat) (g : Nat → Nat) (q : Nat → Nat → Nat) (kb : Bool) (sc : MSc) (hI : YI g q) : Met l yX8_judged (.code yX8_judged cX8_judged 1 (some .int) :: WB) { frames := 1, cells := 0, slots := 0, locals := 22 } (ro_Pc D cy ev [.ref (am 0)] [zO (am 0) 8 [.int (nI (g 4)), .int (nI (g 0)), .int (nI (g 1)), .ref (am 1), .ref (am 2), .ref (am 3), .ref (am 4), .ref (am 5), .ref (am 6), .ref (am 7), .int (nI (g 9)), .int (nI (g 2)), .ref (am 8), .ref (am 9), .ref (am 10), .ref (am 11), .int (nI (g 5)), .int (nI (g 3)), .ref (am 12), .int (bI sc.1), .int (nI sc.2.1), .ref (am 13), .int sc.2.2.1, .long sc.2.2.2.1, .int (bI kb), .int (nI (g 6)), .int (nI (g 7)), .int (nI (g 10)), .int (nI (g 8)), .ref (am 14), .ref (am 15), .ref (am 16), .ref (am 17), .ref (am 18), .ref (am 19), .ref (am 20), .ref (am 21), .long sc.2.2.2.2.1], zI cy (am 1) 4 (fun i9 => nI ((q 0) i9)), zI cy (am 2) 4 (fun i9 => nI ((q 1) i9)), zI cy (am 3) 4 (fun i9 => nI ((q 2) i9)), zI cy (am 4) 4 (fun i9 => nI ((q 3) i9)), zI cy (am 5) 4 (fun i9 => nI ((q 5) i9)), zI cy (am 6) 4 (fun i9 => nI ((q 6) i9)), zJ cy (am 7) 4 (fun i9 => lN ((q 4) i9)), zI cy (am 8) 6 (fun i9 => nI ((q 12) i9)), zI cy (am 9) 6 (fun i9 => nI ((q 13) i9)), zI cy (am 10) 6 (fun i9 => nI ((q 14) i9)), zI cy (am 11) 6 (fun i9 => nI ((q 15) i9)), zB cy (am 12) 18 (fun i9 => nI ((q 7) i9)), zJ cy (am 13) 16 (fun i9 => lN (sc.2.2.2.2.2 i9)), zI cy (am 14) 4 (fun i9 => nI ((q 8) i9)), zI cy (am 15) 4 (fun i9 => nI ((q 10) i9)), zI cy (am 16) 4 (fun i9 => nI ((q 11) i9)), zJ cy (am 17) 4 (fun i9 => lN ((q 9) i9)), zI cy (am 18) 6 (fun i9 => nI ((q 16) i9)), zI cy (am 19) 6 (fun i9 => nI ((q 17) i9)), zI cy (am 20) 6 (fun i9 => nI ((q 18) i9)), zI cy (am 21) 6 (fun i9 => nI ((q 19) i9))]) (vp_Si (fun r => r = F_judged g q)) 0 0 (fun _ => False) := by
  refine Met.ofW (cc := cX8_judged) (maxL := 1) (ret := (some .int)) (by decide) rfl ?_
  intro p e s m args below meth c s₁ B hml hv
  obtain ⟨rfl, hP, hK, hE⟩ := hv
  have hx := B.exec
  have hb := B.bytes
  have hr := B.returns
  have hlk := B.notSynchronized
  have hts : ∀ w ∈ WB, w.before _ s = true := fun w h => atoms_spec B.pre w (List.mem_cons_of_mem _ h)
  have hown : s.vm.findClass RX8 = some m.cls := findClass_of_methodNamed B.named
  have hl := lv_entry ([.ref (am 0)]) (n := 1) (Nat.le_of_ble_eq_true rfl)
  rw [lg_entry_eq]
  generalize (lg_sl ([.ref (am 0)]) ++ List.replicate (1 - (lg_sl ([.ref (am 0)])).length) Slot.unset).toArray = ls at hl ⊢
  have hl : lv_has ls 1 [(0, .ref (am 0))] := hl
  have hn4 := hI.n
  have hn2 := hI.n2
  have hdry := hI.dry
  refine lv_aload_n hx hb dX8_judged_0 rfl (lv_at hl 0 rfl) ?_
  refine va_get (ci := 8) (C := RX8) (T := TX8) (N := 38) hx hb hts inX8 hown hK hP 0 rfl rfl 1 (by decide) (hts _ wm_309) (fun _ h9 => h9) rfl dX8_judged_1 ?_
  refine kt_if_ne (tgt := 12) hx hb dX8_judged_4 (by decide) (nI_toInt (by omega)) (fun c4 => ?_) (fun c4 => ?_)
  · skip
    refine lv_aload_n hx hb dX8_judged_12 rfl (lv_at hl 0 rfl) ?_
    refine ro_Vi (As := []) (rest := []) (v := nI (amx (q 4) (g 0))) ⟨hx, hb, hml, hown, hts⟩ (c_X8_judgedNow l D cy ev am g q kb sc hI (by omega)) (kz_cwV 0 hts wm_495 wm_492 wm_493 wm_494 wm_5 rfl rfl (by decide +kernel) ⟨Nat.le_of_ble_eq_true rfl, Nat.le_of_ble_eq_true rfl⟩) hK hE hP (kz_recv 0 hK hP rfl rfl) rfl hl.1 rfl (Nat.le_of_ble_eq_true rfl) dX8_judged_13 ⟨Nat.le_of_ble_eq_true rfl, Nat.le_of_ble_eq_true rfl⟩ ?_
    exact ro_ri hx hb hr hlk dX8_judged_16 (by unfold F_judged; rw [if_neg (by omega)])
  · skip
    refine lv_bipush (v := (-103)) hx hb dX8_judged_7 (by decide) ?_
    refine lv_goto (tgt := 16) hx hb dX8_judged_9 (by decide) ?_
    exact ro_ri hx hb hr hlk dX8_judged_16 (by unfold F_judged; rw [if_pos (by omega)])
set_option maxHeartbeats 4000000 in
set_option maxRecDepth 100000 in
theorem c_X8_couldHave (l : Launch) (D : va_G) (cy : Nat → ClassId) (ev : kz_V) (am : Nat → Nat) (g : Nat → Nat) (q : Nat → Nat → Nat) (kb : Bool) (sc : MSc) (hI : YI g q) (j : Nat) (hj : j < g 0) (b : Nat) (hbu : b ≤ 9) : Met l yX8_couldHave (.code yX8_couldHave cX8_couldHave 6 (some .boolean) :: WB) { frames := 2, cells := 0, slots := 0, locals := 48 } (ro_Pc D cy ev [.ref (am 0), .int (nI j), .int (nI b)] [zO (am 0) 8 [.int (nI (g 4)), .int (nI (g 0)), .int (nI (g 1)), .ref (am 1), .ref (am 2), .ref (am 3), .ref (am 4), .ref (am 5), .ref (am 6), .ref (am 7), .int (nI (g 9)), .int (nI (g 2)), .ref (am 8), .ref (am 9), .ref (am 10), .ref (am 11), .int (nI (g 5)), .int (nI (g 3)), .ref (am 12), .int (bI sc.1), .int (nI sc.2.1), .ref (am 13), .int sc.2.2.1, .long sc.2.2.2.1, .int (bI kb), .int (nI (g 6)), .int (nI (g 7)), .int (nI (g 10)), .int (nI (g 8)), .ref (am 14), .ref (am 15), .ref (am 16), .ref (am 17), .ref (am 18), .ref (am 19), .ref (am 20), .ref (am 21), .long sc.2.2.2.2.1], zI cy (am 1) 4 (fun i9 => nI ((q 0) i9)), zI cy (am 2) 4 (fun i9 => nI ((q 1) i9)), zI cy (am 3) 4 (fun i9 => nI ((q 2) i9)), zI cy (am 4) 4 (fun i9 => nI ((q 3) i9)), zI cy (am 5) 4 (fun i9 => nI ((q 5) i9)), zI cy (am 6) 4 (fun i9 => nI ((q 6) i9)), zJ cy (am 7) 4 (fun i9 => lN ((q 4) i9)), zI cy (am 8) 6 (fun i9 => nI ((q 12) i9)), zI cy (am 9) 6 (fun i9 => nI ((q 13) i9)), zI cy (am 10) 6 (fun i9 => nI ((q 14) i9)), zI cy (am 11) 6 (fun i9 => nI ((q 15) i9)), zB cy (am 12) 18 (fun i9 => nI ((q 7) i9)), zJ cy (am 13) 16 (fun i9 => lN (sc.2.2.2.2.2 i9)), zI cy (am 14) 4 (fun i9 => nI ((q 8) i9)), zI cy (am 15) 4 (fun i9 => nI ((q 10) i9)), zI cy (am 16) 4 (fun i9 => nI ((q 11) i9)), zJ cy (am 17) 4 (fun i9 => lN ((q 9) i9)), zI cy (am 18) 6 (fun i9 => nI ((q 16) i9)), zI cy (am 19) 6 (fun i9 => nI ((q 17) i9)), zI cy (am 20) 6 (fun i9 => nI ((q 18) i9)), zI cy (am 21) 6 (fun i9 => nI ((q 19) i9))]) (vp_Si (fun r => r = bI (cdB q j b (g 2)))) 0 0 (fun _ => False) := by
  refine Met.ofW (cc := cX8_couldHave) (maxL := 6) (ret := (some .boolean)) (by decide) rfl ?_
  intro p e s m args below meth c s₁ B hml hv
  obtain ⟨rfl, hP, hK, hE⟩ := hv
  have hx := B.exec
  have hb := B.bytes
  have hr := B.returns
  have hlk := B.notSynchronized
  have hts : ∀ w ∈ WB, w.before _ s = true := fun w h => atoms_spec B.pre w (List.mem_cons_of_mem _ h)
  have hown : s.vm.findClass RX8 = some m.cls := findClass_of_methodNamed B.named
  have hl := lv_entry ([.ref (am 0), .int (nI j), .int (nI b)]) (n := 6) (Nat.le_of_ble_eq_true rfl)
  rw [lg_entry_eq]
  generalize (lg_sl ([.ref (am 0), .int (nI j), .int (nI b)]) ++ List.replicate (6 - (lg_sl ([.ref (am 0), .int (nI j), .int (nI b)])).length) Slot.unset).toArray = ls at hl ⊢
  have hl : lv_has ls 6 [(0, .ref (am 0)), (1, .int (nI j)), (2, .int (nI b))] := hl
  have hn4 := hI.n
  have hn2 := hI.n2
  have hdry := hI.dry
  have hper := hI.per j hj
  have hhd := hI.hd
  refine lv_iconst (v := nI 1) hx hb dX8_couldHave_0 (by decide) ?_
  refine lv_istore_n (lv' := [(3, .int (nI 1)), (0, .ref (am 0)), (1, .int (nI j)), (2, .int (nI b))]) hx hb dX8_couldHave_1 rfl hl (by decide) rfl (fun ls hl => ?_)
  refine lv_iconst (v := nI 0) hx hb dX8_couldHave_2 (by decide) ?_
  refine lv_istore (lv' := [(4, .int (nI 0)), (3, .int (nI 1)), (0, .ref (am 0)), (1, .int (nI j)), (2, .int (nI b))]) hx hb dX8_couldHave_3 hl (by decide) rfl (fun ls hl => ?_)
  refine kn_loopR (α := Unit) (g 2) (fun i _ ls => (i ≤ g 2) ∧ lv_has ls 6 [(0, .ref (am 0)), (1, .int (nI j)), (2, .int (nI b)), (3, .int (bI (cdB q j b i))), (4, .int (nI i))]) (0) (()) ⟨(Nat.zero_le _), lv_sub hl [2, 3, 4, 1, 0] rfl⟩ (fun i _ ls hI ih5 => ?_)
  obtain ⟨hi, hl⟩ := hI
  refine lv_iload hx hb dX8_couldHave_5 (lv_at hl 4 rfl) ?_
  refine lv_aload_n hx hb dX8_couldHave_7 rfl (lv_at hl 0 rfl) ?_
  refine va_get (ci := 8) (C := RX8) (T := TX8) (N := 38) hx hb hts inX8 hown hK hP 0 rfl rfl 11 (by decide) (hts _ wm_313) (fun _ h9 => h9) rfl dX8_couldHave_8 ?_
  refine kt_icmp_ge (tgt := 94) hx hb dX8_couldHave_11 (by decide) (nI_toInt (by omega)) (nI_toInt (by omega)) (fun c11 => ?_) (fun c11 => ?_)
  · skip
    refine lv_iload_n hx hb dX8_couldHave_94 rfl (lv_at hl 3 rfl) ?_
    exact ro_rz hx hb hr hlk dX8_couldHave_95 (bI_nar (cdB q j b i)) (by rw [show i = g 2 by omega])
  · skip
    refine lv_aload_n hx hb dX8_couldHave_14 rfl (lv_at hl 0 rfl) ?_
    refine lv_iload_n hx hb dX8_couldHave_15 rfl (lv_at hl 1 rfl) ?_
    refine lv_aload_n hx hb dX8_couldHave_16 rfl (lv_at hl 0 rfl) ?_
    refine va_get (ci := 8) (C := RX8) (T := TX8) (N := 38) hx hb hts inX8 hown hK hP 0 rfl rfl 13 (by decide) (hts _ wm_53) (fun _ h9 => h9) rfl dX8_couldHave_17 ?_
    refine lv_iload hx hb dX8_couldHave_20 (lv_at hl 4 rfl) ?_
    refine kn_iald (v := nI ((q 13) i)) hx hb hK hP 9 rfl (by omega) (by decide) rfl dX8_couldHave_22 ?_
    have hr_d := hI.hr i (by omega)
    refine lv_iconst (v := nI 1) hx hb dX8_couldHave_23 (by decide) ?_
    refine kt_icmp_ne (tgt := 31) hx hb dX8_couldHave_24 (by decide) (nI_toInt (by omega)) (nI_toInt (by decide)) (fun c24 => ?_) (fun c24 => ?_)
    · skip
      refine lv_iconst (v := nI 0) hx hb dX8_couldHave_31 (by decide) ?_
      refine lv_aload_n hx hb dX8_couldHave_32 rfl (lv_at hl 0 rfl) ?_
      refine va_get (ci := 8) (C := RX8) (T := TX8) (N := 38) hx hb hts inX8 hown hK hP 0 rfl rfl 15 (by decide) (hts _ wm_55) (fun _ h9 => h9) rfl dX8_couldHave_33 ?_
      refine lv_iload hx hb dX8_couldHave_36 (lv_at hl 4 rfl) ?_
      refine kn_iald (v := nI ((q 15) i)) hx hb hK hP 11 rfl (by omega) (by decide) rfl dX8_couldHave_38 ?_
      have hr_y := hI.hr i (by omega)
      refine lv_iload_n hx hb dX8_couldHave_39 rfl (lv_at hl 2 rfl) ?_
      refine kn_as (st' := [.int (nI b), .int (nI ((q 15) i)), .int (bI false), .int (nI j), .ref (am 0)]) rfl ?_
      refine ro_Vi (As := [.int (nI j), .int (bI false), .int (nI ((q 15) i)), .int (nI b)]) (rest := []) (v := nI (tn (dn (q 0 j) (q 1 j) false) ((q 15) i) b)) ⟨hx, hb, hml, hown, hts⟩ (c_X8_tenthsBy l D cy ev am g q kb sc hI j (by omega) false ((q 15) i) b (by omega) (by omega)) (kz_cwV 4 hts wm_409 wm_406 wm_407 wm_408 wm_5 rfl rfl (by decide +kernel) ⟨Nat.le_of_ble_eq_true rfl, Nat.le_of_ble_eq_true rfl⟩) hK hE hP (kz_recv 0 hK hP rfl rfl) rfl hl.1 rfl (Nat.le_of_ble_eq_true rfl) dX8_couldHave_40 ⟨Nat.le_of_ble_eq_true rfl, Nat.le_of_ble_eq_true rfl⟩ ?_
      have ht40 : tn (dn (q 0 j) (q 1 j) false) ((q 15) i) b ≤ 10 := tn_le _ _ _
      refine lv_istore (lv' := [(5, .int (nI (tn (dn (q 0 j) (q 1 j) false) ((q 15) i) b))), (0, .ref (am 0)), (1, .int (nI j)), (2, .int (nI b)), (3, .int (bI (cdB q j b i))), (4, .int (nI i))]) hx hb dX8_couldHave_43 hl (by decide) rfl (fun ls hl => ?_)
      refine lv_iload_n hx hb dX8_couldHave_45 rfl (lv_at hl 4 rfl) ?_
      refine kt_ifB_eq (tgt := 86) hx hb dX8_couldHave_46 (by decide) (fun c46 => ?_) (fun c46 => ?_)
      · skip
        refine lv_iconst (v := nI 0) hx hb dX8_couldHave_86 (by decide) ?_
        refine lv_istore_n (lv' := [(3, .int (nI 0)), (5, .int (nI (tn (dn (q 0 j) (q 1 j) false) ((q 15) i) b))), (0, .ref (am 0)), (1, .int (nI j)), (2, .int (nI b)), (4, .int (nI i))]) hx hb dX8_couldHave_87 rfl hl (by decide) rfl (fun ls hl => ?_)
        refine kn_iinc (k := 5) (x := i) (d := 1) (lv' := [(4, .int (nI (i + 1))), (3, .int (nI 0)), (5, .int (nI (tn (dn (q 0 j) (q 1 j) false) ((q 15) i) b))), (0, .ref (am 0)), (1, .int (nI j)), (2, .int (nI b))]) hx hb dX8_couldHave_88 hl rfl (by decide) rfl (fun ls hl => ?_)
        refine lv_goto (tgt := 5) hx hb dX8_couldHave_91 (by decide) ?_
        have hl : lv_has ls 6 [(4, .int (nI (i + 1))), (3, .int (bI (cdB q j b (i + 1)))), (5, .int (nI (tn (dn (q 0 j) (q 1 j) false) ((q 15) i) b))), (0, .ref (am 0)), (1, .int (nI j)), (2, .int (nI b))] := by
          have e9 : nI 0 = bI (cdB q j b (i + 1)) := (by rw [show cdB q j b (i + 1) = (cdB q j b i && (decide (q 12 i ≠ j) || decide (tn (dn (q 0 j) (q 1 j) (decide (q 13 i = 1))) (q 15 i) b ≠ if q 14 i = 1 then 0 else 10))) from rfl, decide_eq_false (show ¬ q 13 i = 1 by omega), c46]; rfl)
          rw [← e9]
          exact hl
        exact ih5 (()) _ (by omega) ⟨(by omega), lv_sub hl [3, 4, 5, 1, 0] rfl⟩
      · skip
        refine lv_aload_n hx hb dX8_couldHave_49 rfl (lv_at hl 1 rfl) ?_
        refine va_get (ci := 8) (C := RX8) (T := TX8) (N := 38) hx hb hts inX8 hown hK hP 0 rfl rfl 12 (by decide) (hts _ wm_52) (fun _ h9 => h9) rfl dX8_couldHave_50 ?_
        refine lv_iload hx hb dX8_couldHave_53 (lv_at hl 5 rfl) ?_
        refine kn_iald (v := nI ((q 12) i)) hx hb hK hP 8 rfl (by omega) (by decide) rfl dX8_couldHave_55 ?_
        have hr_o := hI.hr i (by omega)
        refine lv_iload_n hx hb dX8_couldHave_56 rfl (lv_at hl 2 rfl) ?_
        refine kt_icmp_ne (tgt := 82) hx hb dX8_couldHave_57 (by decide) (nI_toInt (by omega)) (nI_toInt (by omega)) (fun c57 => ?_) (fun c57 => ?_)
        · skip
          refine lv_iconst (v := nI 1) hx hb dX8_couldHave_82 (by decide) ?_
          refine lv_goto (tgt := 87) hx hb dX8_couldHave_83 (by decide) ?_
          refine lv_istore_n (lv' := [(3, .int (nI 1)), (5, .int (nI (tn (dn (q 0 j) (q 1 j) false) ((q 15) i) b))), (0, .ref (am 0)), (1, .int (nI j)), (2, .int (nI b)), (4, .int (nI i))]) hx hb dX8_couldHave_87 rfl hl (by decide) rfl (fun ls hl => ?_)
          refine kn_iinc (k := 5) (x := i) (d := 1) (lv' := [(4, .int (nI (i + 1))), (3, .int (nI 1)), (5, .int (nI (tn (dn (q 0 j) (q 1 j) false) ((q 15) i) b))), (0, .ref (am 0)), (1, .int (nI j)), (2, .int (nI b))]) hx hb dX8_couldHave_88 hl rfl (by decide) rfl (fun ls hl => ?_)
          refine lv_goto (tgt := 5) hx hb dX8_couldHave_91 (by decide) ?_
          have hl : lv_has ls 6 [(4, .int (nI (i + 1))), (3, .int (bI (cdB q j b (i + 1)))), (5, .int (nI (tn (dn (q 0 j) (q 1 j) false) ((q 15) i) b))), (0, .ref (am 0)), (1, .int (nI j)), (2, .int (nI b))] := by
            have e9 : nI 1 = bI (cdB q j b (i + 1)) := (by rw [show cdB q j b (i + 1) = (cdB q j b i && (decide (q 12 i ≠ j) || decide (tn (dn (q 0 j) (q 1 j) (decide (q 13 i = 1))) (q 15 i) b ≠ if q 14 i = 1 then 0 else 10))) from rfl, decide_eq_false (show ¬ q 13 i = 1 by omega), c46, decide_eq_true (show q 12 i ≠ j by omega)]; rfl)
            rw [← e9]
            exact hl
          exact ih5 (()) _ (by omega) ⟨(by omega), lv_sub hl [3, 4, 5, 1, 0] rfl⟩
        · skip
          refine lv_iload hx hb dX8_couldHave_60 (lv_at hl 0 rfl) ?_
          refine lv_aload_n hx hb dX8_couldHave_62 rfl (lv_at hl 1 rfl) ?_
          refine va_get (ci := 8) (C := RX8) (T := TX8) (N := 38) hx hb hts inX8 hown hK hP 0 rfl rfl 14 (by decide) (hts _ wm_54) (fun _ h9 => h9) rfl dX8_couldHave_63 ?_
          refine lv_iload hx hb dX8_couldHave_66 (lv_at hl 5 rfl) ?_
          refine kn_iald (v := nI ((q 14) i)) hx hb hK hP 10 rfl (by omega) (by decide) rfl dX8_couldHave_68 ?_
          have hr_c := hI.hr i (by omega)
          refine lv_iconst (v := nI 1) hx hb dX8_couldHave_69 (by decide) ?_
          refine kt_icmp_ne (tgt := 77) hx hb dX8_couldHave_70 (by decide) (nI_toInt (by omega)) (nI_toInt (by decide)) (fun c70 => ?_) (fun c70 => ?_)
          · skip
            refine lv_bipush (v := nI 10) hx hb dX8_couldHave_77 (by decide) ?_
            refine kt_icmp_eq (tgt := 86) hx hb dX8_couldHave_79 (by decide) (nI_toInt (by omega)) (nI_toInt (by decide)) (fun c79 => ?_) (fun c79 => ?_)
            · skip
              refine lv_iconst (v := nI 0) hx hb dX8_couldHave_86 (by decide) ?_
              refine lv_istore_n (lv' := [(3, .int (nI 0)), (5, .int (nI (tn (dn (q 0 j) (q 1 j) false) ((q 15) i) b))), (0, .ref (am 0)), (1, .int (nI j)), (2, .int (nI b)), (4, .int (nI i))]) hx hb dX8_couldHave_87 rfl hl (by decide) rfl (fun ls hl => ?_)
              refine kn_iinc (k := 5) (x := i) (d := 1) (lv' := [(4, .int (nI (i + 1))), (3, .int (nI 0)), (5, .int (nI (tn (dn (q 0 j) (q 1 j) false) ((q 15) i) b))), (0, .ref (am 0)), (1, .int (nI j)), (2, .int (nI b))]) hx hb dX8_couldHave_88 hl rfl (by decide) rfl (fun ls hl => ?_)
              refine lv_goto (tgt := 5) hx hb dX8_couldHave_91 (by decide) ?_
              have hl : lv_has ls 6 [(4, .int (nI (i + 1))), (3, .int (bI (cdB q j b (i + 1)))), (5, .int (nI (tn (dn (q 0 j) (q 1 j) false) ((q 15) i) b))), (0, .ref (am 0)), (1, .int (nI j)), (2, .int (nI b))] := by
                have e9 : nI 0 = bI (cdB q j b (i + 1)) := (by rw [show cdB q j b (i + 1) = (cdB q j b i && (decide (q 12 i ≠ j) || decide (tn (dn (q 0 j) (q 1 j) (decide (q 13 i = 1))) (q 15 i) b ≠ if q 14 i = 1 then 0 else 10))) from rfl, decide_eq_false (show ¬ q 13 i = 1 by omega), c46, if_neg (show ¬ q 14 i = 1 by omega), decide_eq_false (show ¬ q 12 i ≠ j by omega), decide_eq_false (by omega)]; rfl)
                rw [← e9]
                exact hl
              exact ih5 (()) _ (by omega) ⟨(by omega), lv_sub hl [3, 4, 5, 1, 0] rfl⟩
            · skip
              refine lv_iconst (v := nI 1) hx hb dX8_couldHave_82 (by decide) ?_
              refine lv_goto (tgt := 87) hx hb dX8_couldHave_83 (by decide) ?_
              refine lv_istore_n (lv' := [(3, .int (nI 1)), (5, .int (nI (tn (dn (q 0 j) (q 1 j) false) ((q 15) i) b))), (0, .ref (am 0)), (1, .int (nI j)), (2, .int (nI b)), (4, .int (nI i))]) hx hb dX8_couldHave_87 rfl hl (by decide) rfl (fun ls hl => ?_)
              refine kn_iinc (k := 5) (x := i) (d := 1) (lv' := [(4, .int (nI (i + 1))), (3, .int (nI 1)), (5, .int (nI (tn (dn (q 0 j) (q 1 j) false) ((q 15) i) b))), (0, .ref (am 0)), (1, .int (nI j)), (2, .int (nI b))]) hx hb dX8_couldHave_88 hl rfl (by decide) rfl (fun ls hl => ?_)
              refine lv_goto (tgt := 5) hx hb dX8_couldHave_91 (by decide) ?_
              have hl : lv_has ls 6 [(4, .int (nI (i + 1))), (3, .int (bI (cdB q j b (i + 1)))), (5, .int (nI (tn (dn (q 0 j) (q 1 j) false) ((q 15) i) b))), (0, .ref (am 0)), (1, .int (nI j)), (2, .int (nI b))] := by
                have e9 : nI 1 = bI (cdB q j b (i + 1)) := (by rw [show cdB q j b (i + 1) = (cdB q j b i && (decide (q 12 i ≠ j) || decide (tn (dn (q 0 j) (q 1 j) (decide (q 13 i = 1))) (q 15 i) b ≠ if q 14 i = 1 then 0 else 10))) from rfl, decide_eq_false (show ¬ q 13 i = 1 by omega), c46, if_neg (show ¬ q 14 i = 1 by omega), decide_eq_false (show ¬ q 12 i ≠ j by omega), decide_eq_true (by omega)]; rfl)
                rw [← e9]
                exact hl
              exact ih5 (()) _ (by omega) ⟨(by omega), lv_sub hl [3, 4, 5, 1, 0] rfl⟩
          · skip
            refine lv_iconst (v := nI 0) hx hb dX8_couldHave_73 (by decide) ?_
            refine lv_goto (tgt := 79) hx hb dX8_couldHave_74 (by decide) ?_
            refine kt_icmp_eq (tgt := 86) hx hb dX8_couldHave_79 (by decide) (nI_toInt (by omega)) (nI_toInt (by decide)) (fun c79 => ?_) (fun c79 => ?_)
            · skip
              refine lv_iconst (v := nI 0) hx hb dX8_couldHave_86 (by decide) ?_
              refine lv_istore_n (lv' := [(3, .int (nI 0)), (5, .int (nI (tn (dn (q 0 j) (q 1 j) false) ((q 15) i) b))), (0, .ref (am 0)), (1, .int (nI j)), (2, .int (nI b)), (4, .int (nI i))]) hx hb dX8_couldHave_87 rfl hl (by decide) rfl (fun ls hl => ?_)
              refine kn_iinc (k := 5) (x := i) (d := 1) (lv' := [(4, .int (nI (i + 1))), (3, .int (nI 0)), (5, .int (nI (tn (dn (q 0 j) (q 1 j) false) ((q 15) i) b))), (0, .ref (am 0)), (1, .int (nI j)), (2, .int (nI b))]) hx hb dX8_couldHave_88 hl rfl (by decide) rfl (fun ls hl => ?_)
              refine lv_goto (tgt := 5) hx hb dX8_couldHave_91 (by decide) ?_
              have hl : lv_has ls 6 [(4, .int (nI (i + 1))), (3, .int (bI (cdB q j b (i + 1)))), (5, .int (nI (tn (dn (q 0 j) (q 1 j) false) ((q 15) i) b))), (0, .ref (am 0)), (1, .int (nI j)), (2, .int (nI b))] := by
                have e9 : nI 0 = bI (cdB q j b (i + 1)) := (by rw [show cdB q j b (i + 1) = (cdB q j b i && (decide (q 12 i ≠ j) || decide (tn (dn (q 0 j) (q 1 j) (decide (q 13 i = 1))) (q 15 i) b ≠ if q 14 i = 1 then 0 else 10))) from rfl, decide_eq_false (show ¬ q 13 i = 1 by omega), c46, if_pos (show q 14 i = 1 by omega), decide_eq_false (show ¬ q 12 i ≠ j by omega), decide_eq_false (by omega)]; rfl)
                rw [← e9]
                exact hl
              exact ih5 (()) _ (by omega) ⟨(by omega), lv_sub hl [3, 4, 5, 1, 0] rfl⟩
            · skip
              refine lv_iconst (v := nI 1) hx hb dX8_couldHave_82 (by decide) ?_
              refine lv_goto (tgt := 87) hx hb dX8_couldHave_83 (by decide) ?_
              refine lv_istore_n (lv' := [(3, .int (nI 1)), (5, .int (nI (tn (dn (q 0 j) (q 1 j) false) ((q 15) i) b))), (0, .ref (am 0)), (1, .int (nI j)), (2, .int (nI b)), (4, .int (nI i))]) hx hb dX8_couldHave_87 rfl hl (by decide) rfl (fun ls hl => ?_)
              refine kn_iinc (k := 5) (x := i) (d := 1) (lv' := [(4, .int (nI (i + 1))), (3, .int (nI 1)), (5, .int (nI (tn (dn (q 0 j) (q 1 j) false) ((q 15) i) b))), (0, .ref (am 0)), (1, .int (nI j)), (2, .int (nI b))]) hx hb dX8_couldHave_88 hl rfl (by decide) rfl (fun ls hl => ?_)
              refine lv_goto (tgt := 5) hx hb dX8_couldHave_91 (by decide) ?_
              have hl : lv_has ls 6 [(4, .int (nI (i + 1))), (3, .int (bI (cdB q j b (i + 1)))), (5, .int (nI (tn (dn (q 0 j) (q 1 j) false) ((q 15) i) b))), (0, .ref (am 0)), (1, .int (nI j)), (2, .int (nI b))] := by
                have e9 : nI 1 = bI (cdB q j b (i + 1)) := (by rw [show cdB q j b (i + 1) = (cdB q j b i && (decide (q 12 i ≠ j) || decide (tn (dn (q 0 j) (q 1 j) (decide (q 13 i = 1))) (q 15 i) b ≠ if q 14 i = 1 then 0 else 10))) from rfl, decide_eq_false (show ¬ q 13 i = 1 by omega), c46, if_pos (show q 14 i = 1 by omega), decide_eq_false (show ¬ q 12 i ≠ j by omega), decide_eq_true (by omega)]; rfl)
                rw [← e9]
                exact hl
              exact ih5 (()) _ (by omega) ⟨(by omega), lv_sub hl [3, 4, 5, 1, 0] rfl⟩
    · skip
      refine lv_iconst (v := nI 1) hx hb dX8_couldHave_27 (by decide) ?_
      refine lv_goto (tgt := 32) hx hb dX8_couldHave_28 (by decide) ?_
      refine lv_aload_n hx hb dX8_couldHave_32 rfl (lv_at hl 0 rfl) ?_
      refine va_get (ci := 8) (C := RX8) (T := TX8) (N := 38) hx hb hts inX8 hown hK hP 0 rfl rfl 15 (by decide) (hts _ wm_55) (fun _ h9 => h9) rfl dX8_couldHave_33 ?_
      refine lv_iload hx hb dX8_couldHave_36 (lv_at hl 4 rfl) ?_
      refine kn_iald (v := nI ((q 15) i)) hx hb hK hP 11 rfl (by omega) (by decide) rfl dX8_couldHave_38 ?_
      have hr_y := hI.hr i (by omega)
      refine lv_iload_n hx hb dX8_couldHave_39 rfl (lv_at hl 2 rfl) ?_
      refine kn_as (st' := [.int (nI b), .int (nI ((q 15) i)), .int (bI true), .int (nI j), .ref (am 0)]) rfl ?_
      refine ro_Vi (As := [.int (nI j), .int (bI true), .int (nI ((q 15) i)), .int (nI b)]) (rest := []) (v := nI (tn (dn (q 0 j) (q 1 j) true) ((q 15) i) b)) ⟨hx, hb, hml, hown, hts⟩ (c_X8_tenthsBy l D cy ev am g q kb sc hI j (by omega) true ((q 15) i) b (by omega) (by omega)) (kz_cwV 4 hts wm_409 wm_406 wm_407 wm_408 wm_5 rfl rfl (by decide +kernel) ⟨Nat.le_of_ble_eq_true rfl, Nat.le_of_ble_eq_true rfl⟩) hK hE hP (kz_recv 0 hK hP rfl rfl) rfl hl.1 rfl (Nat.le_of_ble_eq_true rfl) dX8_couldHave_40 ⟨Nat.le_of_ble_eq_true rfl, Nat.le_of_ble_eq_true rfl⟩ ?_
      have ht40 : tn (dn (q 0 j) (q 1 j) true) ((q 15) i) b ≤ 10 := tn_le _ _ _
      refine lv_istore (lv' := [(5, .int (nI (tn (dn (q 0 j) (q 1 j) true) ((q 15) i) b))), (0, .ref (am 0)), (1, .int (nI j)), (2, .int (nI b)), (3, .int (bI (cdB q j b i))), (4, .int (nI i))]) hx hb dX8_couldHave_43 hl (by decide) rfl (fun ls hl => ?_)
      refine lv_iload_n hx hb dX8_couldHave_45 rfl (lv_at hl 4 rfl) ?_
      refine kt_ifB_eq (tgt := 86) hx hb dX8_couldHave_46 (by decide) (fun c46 => ?_) (fun c46 => ?_)
      · skip
        refine lv_iconst (v := nI 0) hx hb dX8_couldHave_86 (by decide) ?_
        refine lv_istore_n (lv' := [(3, .int (nI 0)), (5, .int (nI (tn (dn (q 0 j) (q 1 j) true) ((q 15) i) b))), (0, .ref (am 0)), (1, .int (nI j)), (2, .int (nI b)), (4, .int (nI i))]) hx hb dX8_couldHave_87 rfl hl (by decide) rfl (fun ls hl => ?_)
        refine kn_iinc (k := 5) (x := i) (d := 1) (lv' := [(4, .int (nI (i + 1))), (3, .int (nI 0)), (5, .int (nI (tn (dn (q 0 j) (q 1 j) true) ((q 15) i) b))), (0, .ref (am 0)), (1, .int (nI j)), (2, .int (nI b))]) hx hb dX8_couldHave_88 hl rfl (by decide) rfl (fun ls hl => ?_)
        refine lv_goto (tgt := 5) hx hb dX8_couldHave_91 (by decide) ?_
        have hl : lv_has ls 6 [(4, .int (nI (i + 1))), (3, .int (bI (cdB q j b (i + 1)))), (5, .int (nI (tn (dn (q 0 j) (q 1 j) true) ((q 15) i) b))), (0, .ref (am 0)), (1, .int (nI j)), (2, .int (nI b))] := by
          have e9 : nI 0 = bI (cdB q j b (i + 1)) := (by rw [show cdB q j b (i + 1) = (cdB q j b i && (decide (q 12 i ≠ j) || decide (tn (dn (q 0 j) (q 1 j) (decide (q 13 i = 1))) (q 15 i) b ≠ if q 14 i = 1 then 0 else 10))) from rfl, decide_eq_true (show q 13 i = 1 by omega), c46]; rfl)
          rw [← e9]
          exact hl
        exact ih5 (()) _ (by omega) ⟨(by omega), lv_sub hl [3, 4, 5, 1, 0] rfl⟩
      · skip
        refine lv_aload_n hx hb dX8_couldHave_49 rfl (lv_at hl 1 rfl) ?_
        refine va_get (ci := 8) (C := RX8) (T := TX8) (N := 38) hx hb hts inX8 hown hK hP 0 rfl rfl 12 (by decide) (hts _ wm_52) (fun _ h9 => h9) rfl dX8_couldHave_50 ?_
        refine lv_iload hx hb dX8_couldHave_53 (lv_at hl 5 rfl) ?_
        refine kn_iald (v := nI ((q 12) i)) hx hb hK hP 8 rfl (by omega) (by decide) rfl dX8_couldHave_55 ?_
        have hr_o := hI.hr i (by omega)
        refine lv_iload_n hx hb dX8_couldHave_56 rfl (lv_at hl 2 rfl) ?_
        refine kt_icmp_ne (tgt := 82) hx hb dX8_couldHave_57 (by decide) (nI_toInt (by omega)) (nI_toInt (by omega)) (fun c57 => ?_) (fun c57 => ?_)
        · skip
          refine lv_iconst (v := nI 1) hx hb dX8_couldHave_82 (by decide) ?_
          refine lv_goto (tgt := 87) hx hb dX8_couldHave_83 (by decide) ?_
          refine lv_istore_n (lv' := [(3, .int (nI 1)), (5, .int (nI (tn (dn (q 0 j) (q 1 j) true) ((q 15) i) b))), (0, .ref (am 0)), (1, .int (nI j)), (2, .int (nI b)), (4, .int (nI i))]) hx hb dX8_couldHave_87 rfl hl (by decide) rfl (fun ls hl => ?_)
          refine kn_iinc (k := 5) (x := i) (d := 1) (lv' := [(4, .int (nI (i + 1))), (3, .int (nI 1)), (5, .int (nI (tn (dn (q 0 j) (q 1 j) true) ((q 15) i) b))), (0, .ref (am 0)), (1, .int (nI j)), (2, .int (nI b))]) hx hb dX8_couldHave_88 hl rfl (by decide) rfl (fun ls hl => ?_)
          refine lv_goto (tgt := 5) hx hb dX8_couldHave_91 (by decide) ?_
          have hl : lv_has ls 6 [(4, .int (nI (i + 1))), (3, .int (bI (cdB q j b (i + 1)))), (5, .int (nI (tn (dn (q 0 j) (q 1 j) true) ((q 15) i) b))), (0, .ref (am 0)), (1, .int (nI j)), (2, .int (nI b))] := by
            have e9 : nI 1 = bI (cdB q j b (i + 1)) := (by rw [show cdB q j b (i + 1) = (cdB q j b i && (decide (q 12 i ≠ j) || decide (tn (dn (q 0 j) (q 1 j) (decide (q 13 i = 1))) (q 15 i) b ≠ if q 14 i = 1 then 0 else 10))) from rfl, decide_eq_true (show q 13 i = 1 by omega), c46, decide_eq_true (show q 12 i ≠ j by omega)]; rfl)
            rw [← e9]
            exact hl
          exact ih5 (()) _ (by omega) ⟨(by omega), lv_sub hl [3, 4, 5, 1, 0] rfl⟩
        · skip
          refine lv_iload hx hb dX8_couldHave_60 (lv_at hl 0 rfl) ?_
          refine lv_aload_n hx hb dX8_couldHave_62 rfl (lv_at hl 1 rfl) ?_
          refine va_get (ci := 8) (C := RX8) (T := TX8) (N := 38) hx hb hts inX8 hown hK hP 0 rfl rfl 14 (by decide) (hts _ wm_54) (fun _ h9 => h9) rfl dX8_couldHave_63 ?_
          refine lv_iload hx hb dX8_couldHave_66 (lv_at hl 5 rfl) ?_
          refine kn_iald (v := nI ((q 14) i)) hx hb hK hP 10 rfl (by omega) (by decide) rfl dX8_couldHave_68 ?_
          have hr_c := hI.hr i (by omega)
          refine lv_iconst (v := nI 1) hx hb dX8_couldHave_69 (by decide) ?_
          refine kt_icmp_ne (tgt := 77) hx hb dX8_couldHave_70 (by decide) (nI_toInt (by omega)) (nI_toInt (by decide)) (fun c70 => ?_) (fun c70 => ?_)
          · skip
            refine lv_bipush (v := nI 10) hx hb dX8_couldHave_77 (by decide) ?_
            refine kt_icmp_eq (tgt := 86) hx hb dX8_couldHave_79 (by decide) (nI_toInt (by omega)) (nI_toInt (by decide)) (fun c79 => ?_) (fun c79 => ?_)
            · skip
              refine lv_iconst (v := nI 0) hx hb dX8_couldHave_86 (by decide) ?_
              refine lv_istore_n (lv' := [(3, .int (nI 0)), (5, .int (nI (tn (dn (q 0 j) (q 1 j) true) ((q 15) i) b))), (0, .ref (am 0)), (1, .int (nI j)), (2, .int (nI b)), (4, .int (nI i))]) hx hb dX8_couldHave_87 rfl hl (by decide) rfl (fun ls hl => ?_)
              refine kn_iinc (k := 5) (x := i) (d := 1) (lv' := [(4, .int (nI (i + 1))), (3, .int (nI 0)), (5, .int (nI (tn (dn (q 0 j) (q 1 j) true) ((q 15) i) b))), (0, .ref (am 0)), (1, .int (nI j)), (2, .int (nI b))]) hx hb dX8_couldHave_88 hl rfl (by decide) rfl (fun ls hl => ?_)
              refine lv_goto (tgt := 5) hx hb dX8_couldHave_91 (by decide) ?_
              have hl : lv_has ls 6 [(4, .int (nI (i + 1))), (3, .int (bI (cdB q j b (i + 1)))), (5, .int (nI (tn (dn (q 0 j) (q 1 j) true) ((q 15) i) b))), (0, .ref (am 0)), (1, .int (nI j)), (2, .int (nI b))] := by
                have e9 : nI 0 = bI (cdB q j b (i + 1)) := (by rw [show cdB q j b (i + 1) = (cdB q j b i && (decide (q 12 i ≠ j) || decide (tn (dn (q 0 j) (q 1 j) (decide (q 13 i = 1))) (q 15 i) b ≠ if q 14 i = 1 then 0 else 10))) from rfl, decide_eq_true (show q 13 i = 1 by omega), c46, if_neg (show ¬ q 14 i = 1 by omega), decide_eq_false (show ¬ q 12 i ≠ j by omega), decide_eq_false (by omega)]; rfl)
                rw [← e9]
                exact hl
              exact ih5 (()) _ (by omega) ⟨(by omega), lv_sub hl [3, 4, 5, 1, 0] rfl⟩
            · skip
              refine lv_iconst (v := nI 1) hx hb dX8_couldHave_82 (by decide) ?_
              refine lv_goto (tgt := 87) hx hb dX8_couldHave_83 (by decide) ?_
              refine lv_istore_n (lv' := [(3, .int (nI 1)), (5, .int (nI (tn (dn (q 0 j) (q 1 j) true) ((q 15) i) b))), (0, .ref (am 0)), (1, .int (nI j)), (2, .int (nI b)), (4, .int (nI i))]) hx hb dX8_couldHave_87 rfl hl (by decide) rfl (fun ls hl => ?_)
              refine kn_iinc (k := 5) (x := i) (d := 1) (lv' := [(4, .int (nI (i + 1))), (3, .int (nI 1)), (5, .int (nI (tn (dn (q 0 j) (q 1 j) true) ((q 15) i) b))), (0, .ref (am 0)), (1, .int (nI j)), (2, .int (nI b))]) hx hb dX8_couldHave_88 hl rfl (by decide) rfl (fun ls hl => ?_)
              refine lv_goto (tgt := 5) hx hb dX8_couldHave_91 (by decide) ?_
              have hl : lv_has ls 6 [(4, .int (nI (i + 1))), (3, .int (bI (cdB q j b (i + 1)))), (5, .int (nI (tn (dn (q 0 j) (q 1 j) true) ((q 15) i) b))), (0, .ref (am 0)), (1, .int (nI j)), (2, .int (nI b))] := by
                have e9 : nI 1 = bI (cdB q j b (i + 1)) := (by rw [show cdB q j b (i + 1) = (cdB q j b i && (decide (q 12 i ≠ j) || decide (tn (dn (q 0 j) (q 1 j) (decide (q 13 i = 1))) (q 15 i) b ≠ if q 14 i = 1 then 0 else 10))) from rfl, decide_eq_true (show q 13 i = 1 by omega), c46, if_neg (show ¬ q 14 i = 1 by omega), decide_eq_false (show ¬ q 12 i ≠ j by omega), decide_eq_true (by omega)]; rfl)
                rw [← e9]
                exact hl
              exact ih5 (()) _ (by omega) ⟨(by omega), lv_sub hl [3, 4, 5, 1, 0] rfl⟩
          · skip
            refine lv_iconst (v := nI 0) hx hb dX8_couldHave_73 (by decide) ?_
            refine lv_goto (tgt := 79) hx hb dX8_couldHave_74 (by decide) ?_
            refine kt_icmp_eq (tgt := 86) hx hb dX8_couldHave_79 (by decide) (nI_toInt (by omega)) (nI_toInt (by decide)) (fun c79 => ?_) (fun c79 => ?_)
            · skip
              refine lv_iconst (v := nI 0) hx hb dX8_couldHave_86 (by decide) ?_
              refine lv_istore_n (lv' := [(3, .int (nI 0)), (5, .int (nI (tn (dn (q 0 j) (q 1 j) true) ((q 15) i) b))), (0, .ref (am 0)), (1, .int (nI j)), (2, .int (nI b)), (4, .int (nI i))]) hx hb dX8_couldHave_87 rfl hl (by decide) rfl (fun ls hl => ?_)
              refine kn_iinc (k := 5) (x := i) (d := 1) (lv' := [(4, .int (nI (i + 1))), (3, .int (nI 0)), (5, .int (nI (tn (dn (q 0 j) (q 1 j) true) ((q 15) i) b))), (0, .ref (am 0)), (1, .int (nI j)), (2, .int (nI b))]) hx hb dX8_couldHave_88 hl rfl (by decide) rfl (fun ls hl => ?_)
              refine lv_goto (tgt := 5) hx hb dX8_couldHave_91 (by decide) ?_
              have hl : lv_has ls 6 [(4, .int (nI (i + 1))), (3, .int (bI (cdB q j b (i + 1)))), (5, .int (nI (tn (dn (q 0 j) (q 1 j) true) ((q 15) i) b))), (0, .ref (am 0)), (1, .int (nI j)), (2, .int (nI b))] := by
                have e9 : nI 0 = bI (cdB q j b (i + 1)) := (by rw [show cdB q j b (i + 1) = (cdB q j b i && (decide (q 12 i ≠ j) || decide (tn (dn (q 0 j) (q 1 j) (decide (q 13 i = 1))) (q 15 i) b ≠ if q 14 i = 1 then 0 else 10))) from rfl, decide_eq_true (show q 13 i = 1 by omega), c46, if_pos (show q 14 i = 1 by omega), decide_eq_false (show ¬ q 12 i ≠ j by omega), decide_eq_false (by omega)]; rfl)
                rw [← e9]
                exact hl
              exact ih5 (()) _ (by omega) ⟨(by omega), lv_sub hl [3, 4, 5, 1, 0] rfl⟩
            · skip
              refine lv_iconst (v := nI 1) hx hb dX8_couldHave_82 (by decide) ?_
              refine lv_goto (tgt := 87) hx hb dX8_couldHave_83 (by decide) ?_
              refine lv_istore_n (lv' := [(3, .int (nI 1)), (5, .int (nI (tn (dn (q 0 j) (q 1 j) true) ((q 15) i) b))), (0, .ref (am 0)), (1, .int (nI j)), (2, .int (nI b)), (4, .int (nI i))]) hx hb dX8_couldHave_87 rfl hl (by decide) rfl (fun ls hl => ?_)
              refine kn_iinc (k := 5) (x := i) (d := 1) (lv' := [(4, .int (nI (i + 1))), (3, .int (nI 1)), (5, .int (nI (tn (dn (q 0 j) (q 1 j) true) ((q 15) i) b))), (0, .ref (am 0)), (1, .int (nI j)), (2, .int (nI b))]) hx hb dX8_couldHave_88 hl rfl (by decide) rfl (fun ls hl => ?_)
              refine lv_goto (tgt := 5) hx hb dX8_couldHave_91 (by decide) ?_
              have hl : lv_has ls 6 [(4, .int (nI (i + 1))), (3, .int (bI (cdB q j b (i + 1)))), (5, .int (nI (tn (dn (q 0 j) (q 1 j) true) ((q 15) i) b))), (0, .ref (am 0)), (1, .int (nI j)), (2, .int (nI b))] := by
                have e9 : nI 1 = bI (cdB q j b (i + 1)) := (by rw [show cdB q j b (i + 1) = (cdB q j b i && (decide (q 12 i ≠ j) || decide (tn (dn (q 0 j) (q 1 j) (decide (q 13 i = 1))) (q 15 i) b ≠ if q 14 i = 1 then 0 else 10))) from rfl, decide_eq_true (show q 13 i = 1 by omega), c46, if_pos (show q 14 i = 1 by omega), decide_eq_false (show ¬ q 12 i ≠ j by omega), decide_eq_true (by omega)]; rfl)
                rw [← e9]
                exact hl
              exact ih5 (()) _ (by omega) ⟨(by omega), lv_sub hl [3, 4, 5, 1, 0] rfl⟩
set_option maxHeartbeats 4000000 in
set_option maxRecDepth 100000 in
theorem c_X8_butteredNow (l : Launch) (D : va_G) (cy : Nat → ClassId) (ev : kz_V) (am : Nat → Nat) (g : Nat → Nat) (q : Nat → Nat → Nat) (kb : Bool) (sc : MSc) (hI : YI g q) (j : Nat) (hj : j < g 0) : Met l yX8_butteredNow (.code yX8_butteredNow cX8_butteredNow 4 (some .int) :: WB) { frames := 3, cells := 0, slots := 0, locals := 73 } (ro_Pc D cy ev [.ref (am 0), .int (nI j)] [zO (am 0) 8 [.int (nI (g 4)), .int (nI (g 0)), .int (nI (g 1)), .ref (am 1), .ref (am 2), .ref (am 3), .ref (am 4), .ref (am 5), .ref (am 6), .ref (am 7), .int (nI (g 9)), .int (nI (g 2)), .ref (am 8), .ref (am 9), .ref (am 10), .ref (am 11), .int (nI (g 5)), .int (nI (g 3)), .ref (am 12), .int (bI sc.1), .int (nI sc.2.1), .ref (am 13), .int sc.2.2.1, .long sc.2.2.2.1, .int (bI kb), .int (nI (g 6)), .int (nI (g 7)), .int (nI (g 10)), .int (nI (g 8)), .ref (am 14), .ref (am 15), .ref (am 16), .ref (am 17), .ref (am 18), .ref (am 19), .ref (am 20), .ref (am 21), .long sc.2.2.2.2.1], zI cy (am 1) 4 (fun i9 => nI ((q 0) i9)), zI cy (am 2) 4 (fun i9 => nI ((q 1) i9)), zI cy (am 3) 4 (fun i9 => nI ((q 2) i9)), zI cy (am 4) 4 (fun i9 => nI ((q 3) i9)), zI cy (am 5) 4 (fun i9 => nI ((q 5) i9)), zI cy (am 6) 4 (fun i9 => nI ((q 6) i9)), zJ cy (am 7) 4 (fun i9 => lN ((q 4) i9)), zI cy (am 8) 6 (fun i9 => nI ((q 12) i9)), zI cy (am 9) 6 (fun i9 => nI ((q 13) i9)), zI cy (am 10) 6 (fun i9 => nI ((q 14) i9)), zI cy (am 11) 6 (fun i9 => nI ((q 15) i9)), zB cy (am 12) 18 (fun i9 => nI ((q 7) i9)), zJ cy (am 13) 16 (fun i9 => lN (sc.2.2.2.2.2 i9)), zI cy (am 14) 4 (fun i9 => nI ((q 8) i9)), zI cy (am 15) 4 (fun i9 => nI ((q 10) i9)), zI cy (am 16) 4 (fun i9 => nI ((q 11) i9)), zJ cy (am 17) 4 (fun i9 => lN ((q 9) i9)), zI cy (am 18) 6 (fun i9 => nI ((q 16) i9)), zI cy (am 19) 6 (fun i9 => nI ((q 17) i9)), zI cy (am 20) 6 (fun i9 => nI ((q 18) i9)), zI cy (am 21) 6 (fun i9 => nI ((q 19) i9))]) (vp_Si (fun r => r = bbF (fun b => cdB q j b (g 2)) 10)) 0 0 (fun _ => False) := by
  refine Met.ofW (cc := cX8_butteredNow) (maxL := 4) (ret := (some .int)) (by decide) rfl ?_
  intro p e s m args below meth c s₁ B hml hv
  obtain ⟨rfl, hP, hK, hE⟩ := hv
  have hx := B.exec
  have hb := B.bytes
  have hr := B.returns
  have hlk := B.notSynchronized
  have hts : ∀ w ∈ WB, w.before _ s = true := fun w h => atoms_spec B.pre w (List.mem_cons_of_mem _ h)
  have hown : s.vm.findClass RX8 = some m.cls := findClass_of_methodNamed B.named
  have hl := lv_entry ([.ref (am 0), .int (nI j)]) (n := 4) (Nat.le_of_ble_eq_true rfl)
  rw [lg_entry_eq]
  generalize (lg_sl ([.ref (am 0), .int (nI j)]) ++ List.replicate (4 - (lg_sl ([.ref (am 0), .int (nI j)])).length) Slot.unset).toArray = ls at hl ⊢
  have hl : lv_has ls 4 [(0, .ref (am 0)), (1, .int (nI j))] := hl
  have hn4 := hI.n
  have hn2 := hI.n2
  have hdry := hI.dry
  have hper := hI.per j hj
  refine lv_iconst (v := nI 0) hx hb dX8_butteredNow_0 (by decide) ?_
  refine lv_istore_n (lv' := [(2, .int (nI 0)), (0, .ref (am 0)), (1, .int (nI j))]) hx hb dX8_butteredNow_1 rfl hl (by decide) rfl (fun ls hl => ?_)
  refine lv_iconst (v := nI 0) hx hb dX8_butteredNow_2 (by decide) ?_
  refine lv_istore_n (lv' := [(3, .int (nI 0)), (2, .int (nI 0)), (0, .ref (am 0)), (1, .int (nI j))]) hx hb dX8_butteredNow_3 rfl hl (by decide) rfl (fun ls hl => ?_)
  refine kn_loopR (α := Unit) (10) (fun i _ ls => (i ≤ 10) ∧ lv_has ls 4 [(0, .ref (am 0)), (1, .int (nI j)), (2, .int (bbF (fun b => cdB q j b (g 2)) i)), (3, .int (nI i))]) (0) (()) ⟨(by decide), lv_sub hl [2, 3, 1, 0] rfl⟩ (fun i _ ls hI ih4 => ?_)
  obtain ⟨hi, hl⟩ := hI
  refine lv_iload_n hx hb dX8_butteredNow_4 rfl (lv_at hl 3 rfl) ?_
  refine lv_bipush (v := nI 9) hx hb dX8_butteredNow_5 (by decide) ?_
  refine kt_icmp_gt (tgt := 35) hx hb dX8_butteredNow_7 (by decide) (nI_toInt (by omega)) (nI_toInt (by decide)) (fun c7 => ?_) (fun c7 => ?_)
  · skip
    refine lv_iload_n hx hb dX8_butteredNow_35 rfl (lv_at hl 2 rfl) ?_
    exact ro_ri hx hb hr hlk dX8_butteredNow_36 (by rw [show i = 10 by omega])
  · skip
    refine lv_iload_n hx hb dX8_butteredNow_10 rfl (lv_at hl 2 rfl) ?_
    refine lv_aload_n hx hb dX8_butteredNow_11 rfl (lv_at hl 0 rfl) ?_
    refine lv_iload_n hx hb dX8_butteredNow_12 rfl (lv_at hl 1 rfl) ?_
    refine lv_iload_n hx hb dX8_butteredNow_13 rfl (lv_at hl 3 rfl) ?_
    refine ro_Vi (As := [.int (nI j), .int (nI i)]) (rest := [.int (bbF (fun b => cdB q j b (g 2)) i)]) (v := bI (cdB q j i (g 2))) ⟨hx, hb, hml, hown, hts⟩ (c_X8_couldHave l D cy ev am g q kb sc hI j (by omega) i (by omega)) (kz_cwV 2 hts wm_641 wm_638 wm_639 wm_640 wm_5 rfl rfl (by decide +kernel) ⟨Nat.le_of_ble_eq_true rfl, Nat.le_of_ble_eq_true rfl⟩) hK hE hP (kz_recv 0 hK hP rfl rfl) rfl hl.1 rfl (Nat.le_of_ble_eq_true rfl) dX8_butteredNow_14 ⟨Nat.le_of_ble_eq_true rfl, Nat.le_of_ble_eq_true rfl⟩ ?_
    refine kt_ifB_eq (tgt := 26) hx hb dX8_butteredNow_17 (by decide) (fun c17 => ?_) (fun c17 => ?_)
    · skip
      refine lv_iconst (v := nI 0) hx hb dX8_butteredNow_26 (by decide) ?_
      refine lv_ior hx hb dX8_butteredNow_27 ?_
      refine lv_istore_n (lv' := [(2, .int ((bbF (fun b => cdB q j b (g 2)) i) ||| (nI 0))), (0, .ref (am 0)), (1, .int (nI j)), (3, .int (nI i))]) hx hb dX8_butteredNow_28 rfl hl (by decide) rfl (fun ls hl => ?_)
      refine kn_iinc (k := 3) (x := i) (d := 1) (lv' := [(3, .int (nI (i + 1))), (2, .int ((bbF (fun b => cdB q j b (g 2)) i) ||| (nI 0))), (0, .ref (am 0)), (1, .int (nI j))]) hx hb dX8_butteredNow_29 hl rfl (by decide) rfl (fun ls hl => ?_)
      refine lv_goto (tgt := 4) hx hb dX8_butteredNow_32 (by decide) ?_
      have hl : lv_has ls 4 [(3, .int (nI (i + 1))), (2, .int (bbF (fun b => cdB q j b (g 2)) (i + 1))), (0, .ref (am 0)), (1, .int (nI j))] := by
        have e9 : (bbF (fun b => cdB q j b (g 2)) i) ||| (nI 0) = bbF (fun b => cdB q j b (g 2)) (i + 1) := bb_or (b := fun b => cdB q j b (g 2)) c17
        rw [← e9]
        exact hl
      exact ih4 (()) _ (by omega) ⟨(by omega), lv_sub hl [2, 3, 1, 0] rfl⟩
    · skip
      refine lv_iconst (v := nI 1) hx hb dX8_butteredNow_20 (by decide) ?_
      refine lv_iload_n hx hb dX8_butteredNow_21 rfl (lv_at hl 3 rfl) ?_
      refine lv_ishl hx hb dX8_butteredNow_22 ?_
      refine lv_goto (tgt := 27) hx hb dX8_butteredNow_23 (by decide) ?_
      refine lv_ior hx hb dX8_butteredNow_27 ?_
      refine lv_istore_n (lv' := [(2, .int ((bbF (fun b => cdB q j b (g 2)) i) ||| ((nI 1) <<< ((nI i) &&& 31)))), (0, .ref (am 0)), (1, .int (nI j)), (3, .int (nI i))]) hx hb dX8_butteredNow_28 rfl hl (by decide) rfl (fun ls hl => ?_)
      refine kn_iinc (k := 3) (x := i) (d := 1) (lv' := [(3, .int (nI (i + 1))), (2, .int ((bbF (fun b => cdB q j b (g 2)) i) ||| ((nI 1) <<< ((nI i) &&& 31)))), (0, .ref (am 0)), (1, .int (nI j))]) hx hb dX8_butteredNow_29 hl rfl (by decide) rfl (fun ls hl => ?_)
      refine lv_goto (tgt := 4) hx hb dX8_butteredNow_32 (by decide) ?_
      have hl : lv_has ls 4 [(3, .int (nI (i + 1))), (2, .int (bbF (fun b => cdB q j b (g 2)) (i + 1))), (0, .ref (am 0)), (1, .int (nI j))] := by
        have e9 : (bbF (fun b => cdB q j b (g 2)) i) ||| ((nI 1) <<< ((nI i) &&& 31)) = bbF (fun b => cdB q j b (g 2)) (i + 1) := bbF_yes (b := fun b => cdB q j b (g 2)) c17
        rw [← e9]
        exact hl
      exact ih4 (()) _ (by omega) ⟨(by omega), lv_sub hl [2, 3, 1, 0] rfl⟩
/-- the bits as the reference has them -/
def ybt (g : Nat → Nat) (q : Nat → Nat → Nat) : Nat → Nat → Int32 := fun _ j => bbF (fun b => cdB q j b (g 2)) 10
set_option maxHeartbeats 4000000 in
set_option maxRecDepth 100000 in
theorem c_X8_buttered (l : Launch) (D : va_G) (cy : Nat → ClassId) (ev : kz_V) (am : Nat → Nat) (g : Nat → Nat) (q : Nat → Nat → Nat) (kb : Bool) (sc : MSc) (hI : YI g q) (x : Int32) : Met l yX8_buttered (.code yX8_buttered cX8_buttered 2 (some .int) :: WB) { frames := 4, cells := 0, slots := 0, locals := 96 } (ro_Pc D cy ev [.ref (am 0), .int x] [zO (am 0) 8 [.int (nI (g 4)), .int (nI (g 0)), .int (nI (g 1)), .ref (am 1), .ref (am 2), .ref (am 3), .ref (am 4), .ref (am 5), .ref (am 6), .ref (am 7), .int (nI (g 9)), .int (nI (g 2)), .ref (am 8), .ref (am 9), .ref (am 10), .ref (am 11), .int (nI (g 5)), .int (nI (g 3)), .ref (am 12), .int (bI sc.1), .int (nI sc.2.1), .ref (am 13), .int sc.2.2.1, .long sc.2.2.2.1, .int (bI kb), .int (nI (g 6)), .int (nI (g 7)), .int (nI (g 10)), .int (nI (g 8)), .ref (am 14), .ref (am 15), .ref (am 16), .ref (am 17), .ref (am 18), .ref (am 19), .ref (am 20), .ref (am 21), .long sc.2.2.2.2.1], zI cy (am 1) 4 (fun i9 => nI ((q 0) i9)), zI cy (am 2) 4 (fun i9 => nI ((q 1) i9)), zI cy (am 3) 4 (fun i9 => nI ((q 2) i9)), zI cy (am 4) 4 (fun i9 => nI ((q 3) i9)), zI cy (am 5) 4 (fun i9 => nI ((q 5) i9)), zI cy (am 6) 4 (fun i9 => nI ((q 6) i9)), zJ cy (am 7) 4 (fun i9 => lN ((q 4) i9)), zI cy (am 8) 6 (fun i9 => nI ((q 12) i9)), zI cy (am 9) 6 (fun i9 => nI ((q 13) i9)), zI cy (am 10) 6 (fun i9 => nI ((q 14) i9)), zI cy (am 11) 6 (fun i9 => nI ((q 15) i9)), zB cy (am 12) 18 (fun i9 => nI ((q 7) i9)), zJ cy (am 13) 16 (fun i9 => lN (sc.2.2.2.2.2 i9)), zI cy (am 14) 4 (fun i9 => nI ((q 8) i9)), zI cy (am 15) 4 (fun i9 => nI ((q 10) i9)), zI cy (am 16) 4 (fun i9 => nI ((q 11) i9)), zJ cy (am 17) 4 (fun i9 => lN ((q 9) i9)), zI cy (am 18) 6 (fun i9 => nI ((q 16) i9)), zI cy (am 19) 6 (fun i9 => nI ((q 17) i9)), zI cy (am 20) 6 (fun i9 => nI ((q 18) i9)), zI cy (am 21) 6 (fun i9 => nI ((q 19) i9))]) (vp_Si (fun r => r = F_buttered g (ybt g q) x)) 0 0 (fun _ => False) := by
  refine Met.ofW (cc := cX8_buttered) (maxL := 2) (ret := (some .int)) (by decide) rfl ?_
  intro p e s m args below meth c s₁ B hml hv
  obtain ⟨rfl, hP, hK, hE⟩ := hv
  have hx := B.exec
  have hb := B.bytes
  have hr := B.returns
  have hlk := B.notSynchronized
  have hts : ∀ w ∈ WB, w.before _ s = true := fun w h => atoms_spec B.pre w (List.mem_cons_of_mem _ h)
  have hown : s.vm.findClass RX8 = some m.cls := findClass_of_methodNamed B.named
  have hl := lv_entry ([.ref (am 0), .int x]) (n := 2) (Nat.le_of_ble_eq_true rfl)
  rw [lg_entry_eq]
  generalize (lg_sl ([.ref (am 0), .int x]) ++ List.replicate (2 - (lg_sl ([.ref (am 0), .int x])).length) Slot.unset).toArray = ls at hl ⊢
  have hl : lv_has ls 2 [(0, .ref (am 0)), (1, .int x)] := hl
  have hn4 := hI.n
  have hn2 := hI.n2
  have hdry := hI.dry
  rcases hi_x : ix (g 0) x with _ | j
  · skip
    have hn_x := ix_none hi_x
    refine lv_aload_n hx hb dX8_buttered_0 rfl (lv_at hl 0 rfl) ?_
    refine lv_iload_n hx hb dX8_buttered_1 rfl (lv_at hl 1 rfl) ?_
    refine ro_Vi (As := [.int x]) (rest := []) (v := bI false) ⟨hx, hb, hml, hown, hts⟩ (c_X8_isOne_n l D cy ev am g q kb sc hI x hi_x) (kz_cwV 1 hts wm_397 wm_394 wm_395 wm_396 wm_5 rfl rfl (by decide +kernel) ⟨Nat.le_of_ble_eq_true rfl, Nat.le_of_ble_eq_true rfl⟩) hK hE hP (kz_recv 0 hK hP rfl rfl) rfl hl.1 rfl (Nat.le_of_ble_eq_true rfl) dX8_buttered_2 ⟨Nat.le_of_ble_eq_true rfl, Nat.le_of_ble_eq_true rfl⟩ ?_
    refine kt_ifB_eq (tgt := 16) hx hb dX8_buttered_5 (by decide) (fun c5 => ?_) (fun c5 => absurd c5 (by decide))
    refine lv_bipush (v := (-101)) hx hb dX8_buttered_16 (by decide) ?_
    exact ro_ri hx hb hr hlk dX8_buttered_18 (by unfold F_buttered; rw [hi_x])
  · skip
    obtain ⟨hj, rfl⟩ := ix_some hi_x
    have hper := hI.per j hj
    refine lv_aload_n hx hb dX8_buttered_0 rfl (lv_at hl 0 rfl) ?_
    refine lv_iload_n hx hb dX8_buttered_1 rfl (lv_at hl 1 rfl) ?_
    refine ro_Vi (As := [.int (nI j)]) (rest := []) (v := bI true) ⟨hx, hb, hml, hown, hts⟩ (c_X8_isOne_t l D cy ev am g q kb sc hI j (by omega)) (kz_cwV 1 hts wm_397 wm_394 wm_395 wm_396 wm_5 rfl rfl (by decide +kernel) ⟨Nat.le_of_ble_eq_true rfl, Nat.le_of_ble_eq_true rfl⟩) hK hE hP (kz_recv 0 hK hP rfl rfl) rfl hl.1 rfl (Nat.le_of_ble_eq_true rfl) dX8_buttered_2 ⟨Nat.le_of_ble_eq_true rfl, Nat.le_of_ble_eq_true rfl⟩ ?_
    refine kt_ifB_eq (tgt := 16) hx hb dX8_buttered_5 (by decide) (fun c5 => absurd c5 (by decide)) (fun c5 => ?_)
    refine lv_aload_n hx hb dX8_buttered_8 rfl (lv_at hl 0 rfl) ?_
    refine lv_iload_n hx hb dX8_buttered_9 rfl (lv_at hl 1 rfl) ?_
    refine ro_Vi (As := [.int (nI j)]) (rest := []) (v := bbF (fun b => cdB q j b (g 2)) 10) ⟨hx, hb, hml, hown, hts⟩ (c_X8_butteredNow l D cy ev am g q kb sc hI j (by omega)) (kz_cwV 1 hts wm_637 wm_634 wm_635 wm_636 wm_5 rfl rfl (by decide +kernel) ⟨Nat.le_of_ble_eq_true rfl, Nat.le_of_ble_eq_true rfl⟩) hK hE hP (kz_recv 0 hK hP rfl rfl) rfl hl.1 rfl (Nat.le_of_ble_eq_true rfl) dX8_buttered_10 ⟨Nat.le_of_ble_eq_true rfl, Nat.le_of_ble_eq_true rfl⟩ ?_
    refine lv_goto (tgt := 18) hx hb dX8_buttered_13 (by decide) ?_
    exact ro_ri hx hb hr hlk dX8_buttered_18 (by unfold F_buttered; rw [hi_x]; rfl)
set_option maxHeartbeats 4000000 in
set_option maxRecDepth 100000 in
theorem c_X8_sum7 (l : Launch) (D : va_G) (cy : Nat → ClassId) (ev : kz_V) (am : Nat → Nat) (g : Nat → Nat) (q : Nat → Nat → Nat) (kb : Bool) (sc : MSc) (hI : YI g q) : Met l yX8_sum (.code yX8_sum cX8_sum 4 (some .int) :: WB) { frames := 4, cells := 0, slots := 0, locals := 92 } (ro_Pc D cy ev [.ref (am 0), .int (nI 7)] [zO (am 0) 8 [.int (nI (g 4)), .int (nI (g 0)), .int (nI (g 1)), .ref (am 1), .ref (am 2), .ref (am 3), .ref (am 4), .ref (am 5), .ref (am 6), .ref (am 7), .int (nI (g 9)), .int (nI (g 2)), .ref (am 8), .ref (am 9), .ref (am 10), .ref (am 11), .int (nI (g 5)), .int (nI (g 3)), .ref (am 12), .int (bI sc.1), .int (nI sc.2.1), .ref (am 13), .int sc.2.2.1, .long sc.2.2.2.1, .int (bI kb), .int (nI (g 6)), .int (nI (g 7)), .int (nI (g 10)), .int (nI (g 8)), .ref (am 14), .ref (am 15), .ref (am 16), .ref (am 17), .ref (am 18), .ref (am 19), .ref (am 20), .ref (am 21), .long sc.2.2.2.2.1], zI cy (am 1) 4 (fun i9 => nI ((q 0) i9)), zI cy (am 2) 4 (fun i9 => nI ((q 1) i9)), zI cy (am 3) 4 (fun i9 => nI ((q 2) i9)), zI cy (am 4) 4 (fun i9 => nI ((q 3) i9)), zI cy (am 5) 4 (fun i9 => nI ((q 5) i9)), zI cy (am 6) 4 (fun i9 => nI ((q 6) i9)), zJ cy (am 7) 4 (fun i9 => lN ((q 4) i9)), zI cy (am 8) 6 (fun i9 => nI ((q 12) i9)), zI cy (am 9) 6 (fun i9 => nI ((q 13) i9)), zI cy (am 10) 6 (fun i9 => nI ((q 14) i9)), zI cy (am 11) 6 (fun i9 => nI ((q 15) i9)), zB cy (am 12) 18 (fun i9 => nI ((q 7) i9)), zJ cy (am 13) 16 (fun i9 => lN (sc.2.2.2.2.2 i9)), zI cy (am 14) 4 (fun i9 => nI ((q 8) i9)), zI cy (am 15) 4 (fun i9 => nI ((q 10) i9)), zI cy (am 16) 4 (fun i9 => nI ((q 11) i9)), zJ cy (am 17) 4 (fun i9 => lN ((q 9) i9)), zI cy (am 18) 6 (fun i9 => nI ((q 16) i9)), zI cy (am 19) 6 (fun i9 => nI ((q 17) i9)), zI cy (am 20) 6 (fun i9 => nI ((q 18) i9)), zI cy (am 21) 6 (fun i9 => nI ((q 19) i9))]) (vp_Si (fun r => r = nI (sm (q 6) (g 0)))) 0 0 (fun _ => False) := by
  refine Met.ofW (cc := cX8_sum) (maxL := 4) (ret := (some .int)) (by decide) rfl ?_
  intro p e s m args below meth c s₁ B hml hv
  obtain ⟨rfl, hP, hK, hE⟩ := hv
  have hx := B.exec
  have hb := B.bytes
  have hr := B.returns
  have hlk := B.notSynchronized
  have hts : ∀ w ∈ WB, w.before _ s = true := fun w h => atoms_spec B.pre w (List.mem_cons_of_mem _ h)
  have hown : s.vm.findClass RX8 = some m.cls := findClass_of_methodNamed B.named
  have hl := lv_entry ([.ref (am 0), .int (nI 7)]) (n := 4) (Nat.le_of_ble_eq_true rfl)
  rw [lg_entry_eq]
  generalize (lg_sl ([.ref (am 0), .int (nI 7)]) ++ List.replicate (4 - (lg_sl ([.ref (am 0), .int (nI 7)])).length) Slot.unset).toArray = ls at hl ⊢
  have hl : lv_has ls 4 [(0, .ref (am 0)), (1, .int (nI 7))] := hl
  have hn4 := hI.n
  have hn2 := hI.n2
  have hdry := hI.dry
  refine lv_iconst (v := nI 0) hx hb dX8_sum_0 (by decide) ?_
  refine lv_istore_n (lv' := [(2, .int (nI 0)), (0, .ref (am 0)), (1, .int (nI 7))]) hx hb dX8_sum_1 rfl hl (by decide) rfl (fun ls hl => ?_)
  refine lv_iconst (v := nI 0) hx hb dX8_sum_2 (by decide) ?_
  refine lv_istore_n (lv' := [(3, .int (nI 0)), (2, .int (nI 0)), (0, .ref (am 0)), (1, .int (nI 7))]) hx hb dX8_sum_3 rfl hl (by decide) rfl (fun ls hl => ?_)
  refine kn_loopR (α := Unit) (g 0) (fun i _ ls => (i ≤ g 0) ∧ lv_has ls 4 [(0, .ref (am 0)), (1, .int (nI 7)), (2, .int (nI (sm (q 6) i))), (3, .int (nI i))]) (0) (()) ⟨(Nat.zero_le _), lv_sub hl [2, 3, 1, 0] rfl⟩ (fun i _ ls hI ih4 => ?_)
  obtain ⟨hi, hl⟩ := hI
  refine lv_iload_n hx hb dX8_sum_4 rfl (lv_at hl 3 rfl) ?_
  refine lv_aload_n hx hb dX8_sum_5 rfl (lv_at hl 0 rfl) ?_
  refine va_get (ci := 8) (C := RX8) (T := TX8) (N := 38) hx hb hts inX8 hown hK hP 0 rfl rfl 1 (by decide) (hts _ wm_309) (fun _ h9 => h9) rfl dX8_sum_6 ?_
  refine kt_icmp_ge (tgt := 27) hx hb dX8_sum_9 (by decide) (nI_toInt (by omega)) (nI_toInt (by omega)) (fun c9 => ?_) (fun c9 => ?_)
  · skip
    refine lv_iload_n hx hb dX8_sum_27 rfl (lv_at hl 2 rfl) ?_
    exact ro_ri hx hb hr hlk dX8_sum_28 (by rw [show i = g 0 by omega])
  · skip
    refine lv_iload_n hx hb dX8_sum_12 rfl (lv_at hl 2 rfl) ?_
    refine lv_aload_n hx hb dX8_sum_13 rfl (lv_at hl 0 rfl) ?_
    refine lv_iload_n hx hb dX8_sum_14 rfl (lv_at hl 3 rfl) ?_
    refine lv_iload_n hx hb dX8_sum_15 rfl (lv_at hl 1 rfl) ?_
    refine ro_Vi (As := [.int (nI i), .int (nI 7)]) (rest := [.int (nI (sm (q 6) i))]) (v := ab g q i 7) ⟨hx, hb, hml, hown, hts⟩ (c_X8_oneNow l D cy ev am g q kb sc hI i (by omega) 7 (by omega)) (kz_cwV 2 hts wm_401 wm_398 wm_399 wm_400 wm_5 rfl rfl (by decide +kernel) ⟨Nat.le_of_ble_eq_true rfl, Nat.le_of_ble_eq_true rfl⟩) hK hE hP (kz_recv 0 hK hP rfl rfl) rfl hl.1 rfl (Nat.le_of_ble_eq_true rfl) dX8_sum_16 ⟨Nat.le_of_ble_eq_true rfl, Nat.le_of_ble_eq_true rfl⟩ ?_
    refine kn_as (st' := [.int (nI (q 6 i)), .int (nI (sm (q 6) i))]) rfl ?_
    refine kn_iadd hx hb dX8_sum_19 ?_
    refine lv_istore_n (lv' := [(2, .int (nI ((sm (q 6) i) + (q 6 i)))), (0, .ref (am 0)), (1, .int (nI 7)), (3, .int (nI i))]) hx hb dX8_sum_20 rfl hl (by decide) rfl (fun ls hl => ?_)
    refine kn_iinc (k := 3) (x := i) (d := 1) (lv' := [(3, .int (nI (i + 1))), (2, .int (nI ((sm (q 6) i) + (q 6 i)))), (0, .ref (am 0)), (1, .int (nI 7))]) hx hb dX8_sum_21 hl rfl (by decide) rfl (fun ls hl => ?_)
    refine lv_goto (tgt := 4) hx hb dX8_sum_24 (by decide) ?_
    exact ih4 (()) _ (by omega) ⟨(by omega), lv_sub hl [2, 3, 1, 0] rfl⟩
set_option maxHeartbeats 4000000 in
set_option maxRecDepth 100000 in
theorem c_X8_sum3 (l : Launch) (D : va_G) (cy : Nat → ClassId) (ev : kz_V) (am : Nat → Nat) (g : Nat → Nat) (q : Nat → Nat → Nat) (kb : Bool) (sc : MSc) (hI : YI g q) : Met l yX8_sum (.code yX8_sum cX8_sum 4 (some .int) :: WB) { frames := 4, cells := 0, slots := 0, locals := 92 } (ro_Pc D cy ev [.ref (am 0), .int (nI 3)] [zO (am 0) 8 [.int (nI (g 4)), .int (nI (g 0)), .int (nI (g 1)), .ref (am 1), .ref (am 2), .ref (am 3), .ref (am 4), .ref (am 5), .ref (am 6), .ref (am 7), .int (nI (g 9)), .int (nI (g 2)), .ref (am 8), .ref (am 9), .ref (am 10), .ref (am 11), .int (nI (g 5)), .int (nI (g 3)), .ref (am 12), .int (bI sc.1), .int (nI sc.2.1), .ref (am 13), .int sc.2.2.1, .long sc.2.2.2.1, .int (bI kb), .int (nI (g 6)), .int (nI (g 7)), .int (nI (g 10)), .int (nI (g 8)), .ref (am 14), .ref (am 15), .ref (am 16), .ref (am 17), .ref (am 18), .ref (am 19), .ref (am 20), .ref (am 21), .long sc.2.2.2.2.1], zI cy (am 1) 4 (fun i9 => nI ((q 0) i9)), zI cy (am 2) 4 (fun i9 => nI ((q 1) i9)), zI cy (am 3) 4 (fun i9 => nI ((q 2) i9)), zI cy (am 4) 4 (fun i9 => nI ((q 3) i9)), zI cy (am 5) 4 (fun i9 => nI ((q 5) i9)), zI cy (am 6) 4 (fun i9 => nI ((q 6) i9)), zJ cy (am 7) 4 (fun i9 => lN ((q 4) i9)), zI cy (am 8) 6 (fun i9 => nI ((q 12) i9)), zI cy (am 9) 6 (fun i9 => nI ((q 13) i9)), zI cy (am 10) 6 (fun i9 => nI ((q 14) i9)), zI cy (am 11) 6 (fun i9 => nI ((q 15) i9)), zB cy (am 12) 18 (fun i9 => nI ((q 7) i9)), zJ cy (am 13) 16 (fun i9 => lN (sc.2.2.2.2.2 i9)), zI cy (am 14) 4 (fun i9 => nI ((q 8) i9)), zI cy (am 15) 4 (fun i9 => nI ((q 10) i9)), zI cy (am 16) 4 (fun i9 => nI ((q 11) i9)), zJ cy (am 17) 4 (fun i9 => lN ((q 9) i9)), zI cy (am 18) 6 (fun i9 => nI ((q 16) i9)), zI cy (am 19) 6 (fun i9 => nI ((q 17) i9)), zI cy (am 20) 6 (fun i9 => nI ((q 18) i9)), zI cy (am 21) 6 (fun i9 => nI ((q 19) i9))]) (vp_Si (fun r => r = nI (sm (q 3) (g 0)))) 0 0 (fun _ => False) := by
  refine Met.ofW (cc := cX8_sum) (maxL := 4) (ret := (some .int)) (by decide) rfl ?_
  intro p e s m args below meth c s₁ B hml hv
  obtain ⟨rfl, hP, hK, hE⟩ := hv
  have hx := B.exec
  have hb := B.bytes
  have hr := B.returns
  have hlk := B.notSynchronized
  have hts : ∀ w ∈ WB, w.before _ s = true := fun w h => atoms_spec B.pre w (List.mem_cons_of_mem _ h)
  have hown : s.vm.findClass RX8 = some m.cls := findClass_of_methodNamed B.named
  have hl := lv_entry ([.ref (am 0), .int (nI 3)]) (n := 4) (Nat.le_of_ble_eq_true rfl)
  rw [lg_entry_eq]
  generalize (lg_sl ([.ref (am 0), .int (nI 3)]) ++ List.replicate (4 - (lg_sl ([.ref (am 0), .int (nI 3)])).length) Slot.unset).toArray = ls at hl ⊢
  have hl : lv_has ls 4 [(0, .ref (am 0)), (1, .int (nI 3))] := hl
  have hn4 := hI.n
  have hn2 := hI.n2
  have hdry := hI.dry
  refine lv_iconst (v := nI 0) hx hb dX8_sum_0 (by decide) ?_
  refine lv_istore_n (lv' := [(2, .int (nI 0)), (0, .ref (am 0)), (1, .int (nI 3))]) hx hb dX8_sum_1 rfl hl (by decide) rfl (fun ls hl => ?_)
  refine lv_iconst (v := nI 0) hx hb dX8_sum_2 (by decide) ?_
  refine lv_istore_n (lv' := [(3, .int (nI 0)), (2, .int (nI 0)), (0, .ref (am 0)), (1, .int (nI 3))]) hx hb dX8_sum_3 rfl hl (by decide) rfl (fun ls hl => ?_)
  refine kn_loopR (α := Unit) (g 0) (fun i _ ls => (i ≤ g 0) ∧ lv_has ls 4 [(0, .ref (am 0)), (1, .int (nI 3)), (2, .int (nI (sm (q 3) i))), (3, .int (nI i))]) (0) (()) ⟨(Nat.zero_le _), lv_sub hl [2, 3, 1, 0] rfl⟩ (fun i _ ls hI ih4 => ?_)
  obtain ⟨hi, hl⟩ := hI
  refine lv_iload_n hx hb dX8_sum_4 rfl (lv_at hl 3 rfl) ?_
  refine lv_aload_n hx hb dX8_sum_5 rfl (lv_at hl 0 rfl) ?_
  refine va_get (ci := 8) (C := RX8) (T := TX8) (N := 38) hx hb hts inX8 hown hK hP 0 rfl rfl 1 (by decide) (hts _ wm_309) (fun _ h9 => h9) rfl dX8_sum_6 ?_
  refine kt_icmp_ge (tgt := 27) hx hb dX8_sum_9 (by decide) (nI_toInt (by omega)) (nI_toInt (by omega)) (fun c9 => ?_) (fun c9 => ?_)
  · skip
    refine lv_iload_n hx hb dX8_sum_27 rfl (lv_at hl 2 rfl) ?_
    exact ro_ri hx hb hr hlk dX8_sum_28 (by rw [show i = g 0 by omega])
  · skip
    refine lv_iload_n hx hb dX8_sum_12 rfl (lv_at hl 2 rfl) ?_
    refine lv_aload_n hx hb dX8_sum_13 rfl (lv_at hl 0 rfl) ?_
    refine lv_iload_n hx hb dX8_sum_14 rfl (lv_at hl 3 rfl) ?_
    refine lv_iload_n hx hb dX8_sum_15 rfl (lv_at hl 1 rfl) ?_
    refine ro_Vi (As := [.int (nI i), .int (nI 3)]) (rest := [.int (nI (sm (q 3) i))]) (v := ab g q i 3) ⟨hx, hb, hml, hown, hts⟩ (c_X8_oneNow l D cy ev am g q kb sc hI i (by omega) 3 (by omega)) (kz_cwV 2 hts wm_401 wm_398 wm_399 wm_400 wm_5 rfl rfl (by decide +kernel) ⟨Nat.le_of_ble_eq_true rfl, Nat.le_of_ble_eq_true rfl⟩) hK hE hP (kz_recv 0 hK hP rfl rfl) rfl hl.1 rfl (Nat.le_of_ble_eq_true rfl) dX8_sum_16 ⟨Nat.le_of_ble_eq_true rfl, Nat.le_of_ble_eq_true rfl⟩ ?_
    refine kn_as (st' := [.int (nI (q 3 i)), .int (nI (sm (q 3) i))]) rfl ?_
    refine kn_iadd hx hb dX8_sum_19 ?_
    refine lv_istore_n (lv' := [(2, .int (nI ((sm (q 3) i) + (q 3 i)))), (0, .ref (am 0)), (1, .int (nI 3)), (3, .int (nI i))]) hx hb dX8_sum_20 rfl hl (by decide) rfl (fun ls hl => ?_)
    refine kn_iinc (k := 3) (x := i) (d := 1) (lv' := [(3, .int (nI (i + 1))), (2, .int (nI ((sm (q 3) i) + (q 3 i)))), (0, .ref (am 0)), (1, .int (nI 3))]) hx hb dX8_sum_21 hl rfl (by decide) rfl (fun ls hl => ?_)
    refine lv_goto (tgt := 4) hx hb dX8_sum_24 (by decide) ?_
    exact ih4 (()) _ (by omega) ⟨(by omega), lv_sub hl [2, 3, 1, 0] rfl⟩
set_option maxHeartbeats 4000000 in
set_option maxRecDepth 100000 in
theorem c_X8_howMany (l : Launch) (D : va_G) (cy : Nat → ClassId) (ev : kz_V) (am : Nat → Nat) (g : Nat → Nat) (q : Nat → Nat → Nat) (kb : Bool) (sc : MSc) (hI : YI g q) (y : Int32) : Met l yX8_howMany (.code yX8_howMany cX8_howMany 2 (some .int) :: WB) { frames := 5, cells := 0, slots := 0, locals := 115 } (ro_Pc D cy ev [.ref (am 0), .int y] [zO (am 0) 8 [.int (nI (g 4)), .int (nI (g 0)), .int (nI (g 1)), .ref (am 1), .ref (am 2), .ref (am 3), .ref (am 4), .ref (am 5), .ref (am 6), .ref (am 7), .int (nI (g 9)), .int (nI (g 2)), .ref (am 8), .ref (am 9), .ref (am 10), .ref (am 11), .int (nI (g 5)), .int (nI (g 3)), .ref (am 12), .int (bI sc.1), .int (nI sc.2.1), .ref (am 13), .int sc.2.2.1, .long sc.2.2.2.1, .int (bI kb), .int (nI (g 6)), .int (nI (g 7)), .int (nI (g 10)), .int (nI (g 8)), .ref (am 14), .ref (am 15), .ref (am 16), .ref (am 17), .ref (am 18), .ref (am 19), .ref (am 20), .ref (am 21), .long sc.2.2.2.2.1], zI cy (am 1) 4 (fun i9 => nI ((q 0) i9)), zI cy (am 2) 4 (fun i9 => nI ((q 1) i9)), zI cy (am 3) 4 (fun i9 => nI ((q 2) i9)), zI cy (am 4) 4 (fun i9 => nI ((q 3) i9)), zI cy (am 5) 4 (fun i9 => nI ((q 5) i9)), zI cy (am 6) 4 (fun i9 => nI ((q 6) i9)), zJ cy (am 7) 4 (fun i9 => lN ((q 4) i9)), zI cy (am 8) 6 (fun i9 => nI ((q 12) i9)), zI cy (am 9) 6 (fun i9 => nI ((q 13) i9)), zI cy (am 10) 6 (fun i9 => nI ((q 14) i9)), zI cy (am 11) 6 (fun i9 => nI ((q 15) i9)), zB cy (am 12) 18 (fun i9 => nI ((q 7) i9)), zJ cy (am 13) 16 (fun i9 => lN (sc.2.2.2.2.2 i9)), zI cy (am 14) 4 (fun i9 => nI ((q 8) i9)), zI cy (am 15) 4 (fun i9 => nI ((q 10) i9)), zI cy (am 16) 4 (fun i9 => nI ((q 11) i9)), zJ cy (am 17) 4 (fun i9 => lN ((q 9) i9)), zI cy (am 18) 6 (fun i9 => nI ((q 16) i9)), zI cy (am 19) 6 (fun i9 => nI ((q 17) i9)), zI cy (am 20) 6 (fun i9 => nI ((q 18) i9)), zI cy (am 21) 6 (fun i9 => nI ((q 19) i9))]) (vp_Si (fun r => r = F_count g q y)) 0 0 (fun _ => False) := by
  refine Met.ofW (cc := cX8_howMany) (maxL := 2) (ret := (some .int)) (by decide) rfl ?_
  intro p e s m args below meth c s₁ B hml hv
  obtain ⟨rfl, hP, hK, hE⟩ := hv
  have hx := B.exec
  have hb := B.bytes
  have hr := B.returns
  have hlk := B.notSynchronized
  have hts : ∀ w ∈ WB, w.before _ s = true := fun w h => atoms_spec B.pre w (List.mem_cons_of_mem _ h)
  have hown : s.vm.findClass RX8 = some m.cls := findClass_of_methodNamed B.named
  have hl := lv_entry ([.ref (am 0), .int y]) (n := 2) (Nat.le_of_ble_eq_true rfl)
  rw [lg_entry_eq]
  generalize (lg_sl ([.ref (am 0), .int y]) ++ List.replicate (2 - (lg_sl ([.ref (am 0), .int y])).length) Slot.unset).toArray = ls at hl ⊢
  have hl : lv_has ls 2 [(0, .ref (am 0)), (1, .int y)] := hl
  refine lv_iload_n hx hb dX8_howMany_0 rfl (lv_at hl 1 rfl) ?_
  rcases hs1 : ix 9 y with _ | k1
  · skip
    have hsn := ix_none hs1
    refine lv_tableOut (tgt := 100) hx hb dX8_howMany_1 (by omega) (by decide) ?_
    refine lv_bipush (v := (-102)) hx hb dX8_howMany_100 (by decide) ?_
    exact ro_ri hx hb hr hlk dX8_howMany_102 (by unfold F_count; rw [hs1])
  · skip
    obtain ⟨hk1, rfl⟩ := ix_some hs1
    rcases (show k1 = 0 ∨ k1 = 1 ∨ k1 = 2 ∨ k1 = 3 ∨ k1 = 4 ∨ k1 = 5 ∨ k1 = 6 ∨ k1 = 7 ∨ k1 = 8 by omega) with rfl | rfl | rfl | rfl | rfl | rfl | rfl | rfl | rfl
    · skip
      refine lv_tableIn (tgt := 52) (off := 51) hx hb dX8_howMany_1 (by decide) (by decide) rfl (by decide) ?_
      refine lv_aload_n hx hb dX8_howMany_52 rfl (lv_at hl 0 rfl) ?_
      refine va_get (ci := 8) (C := RX8) (T := TX8) (N := 38) hx hb hts inX8 hown hK hP 0 rfl rfl 1 (by decide) (hts _ wm_309) (fun _ h9 => h9) rfl dX8_howMany_53 ?_
      exact ro_ri hx hb hr hlk dX8_howMany_56 (by unfold F_count; rw [hs1]; rfl)
    · skip
      refine lv_tableIn (tgt := 57) (off := 56) hx hb dX8_howMany_1 (by decide) (by decide) rfl (by decide) ?_
      refine lv_aload_n hx hb dX8_howMany_57 rfl (lv_at hl 0 rfl) ?_
      refine va_get (ci := 8) (C := RX8) (T := TX8) (N := 38) hx hb hts inX8 hown hK hP 0 rfl rfl 2 (by decide) (hts _ wm_310) (fun _ h9 => h9) rfl dX8_howMany_58 ?_
      exact ro_ri hx hb hr hlk dX8_howMany_61 (by unfold F_count; rw [hs1]; rfl)
    · skip
      refine lv_tableIn (tgt := 62) (off := 61) hx hb dX8_howMany_1 (by decide) (by decide) rfl (by decide) ?_
      refine lv_aload_n hx hb dX8_howMany_62 rfl (lv_at hl 0 rfl) ?_
      refine va_get (ci := 8) (C := RX8) (T := TX8) (N := 38) hx hb hts inX8 hown hK hP 0 rfl rfl 10 (by decide) (hts _ wm_312) (fun _ h9 => h9) rfl dX8_howMany_63 ?_
      exact ro_ri hx hb hr hlk dX8_howMany_66 (by unfold F_count; rw [hs1]; rfl)
    · skip
      refine lv_tableIn (tgt := 67) (off := 66) hx hb dX8_howMany_1 (by decide) (by decide) rfl (by decide) ?_
      refine lv_aload_n hx hb dX8_howMany_67 rfl (lv_at hl 0 rfl) ?_
      refine lv_bipush (v := nI 7) hx hb dX8_howMany_68 (by decide) ?_
      refine ro_Vi (As := [.int (nI 7)]) (rest := []) (v := nI (sm (q 6) (g 0))) ⟨hx, hb, hml, hown, hts⟩ (c_X8_sum7 l D cy ev am g q kb sc hI) (kz_cwV 1 hts wm_715 wm_712 wm_713 wm_714 wm_5 rfl rfl (by decide +kernel) ⟨Nat.le_of_ble_eq_true rfl, Nat.le_of_ble_eq_true rfl⟩) hK hE hP (kz_recv 0 hK hP rfl rfl) rfl hl.1 rfl (Nat.le_of_ble_eq_true rfl) dX8_howMany_70 ⟨Nat.le_of_ble_eq_true rfl, Nat.le_of_ble_eq_true rfl⟩ ?_
      exact ro_ri hx hb hr hlk dX8_howMany_73 (by unfold F_count; rw [hs1]; rfl)
    · skip
      refine lv_tableIn (tgt := 74) (off := 73) hx hb dX8_howMany_1 (by decide) (by decide) rfl (by decide) ?_
      refine lv_aload_n hx hb dX8_howMany_74 rfl (lv_at hl 0 rfl) ?_
      refine lv_iconst (v := nI 3) hx hb dX8_howMany_75 (by decide) ?_
      refine ro_Vi (As := [.int (nI 3)]) (rest := []) (v := nI (sm (q 3) (g 0))) ⟨hx, hb, hml, hown, hts⟩ (c_X8_sum3 l D cy ev am g q kb sc hI) (kz_cwV 1 hts wm_715 wm_712 wm_713 wm_714 wm_5 rfl rfl (by decide +kernel) ⟨Nat.le_of_ble_eq_true rfl, Nat.le_of_ble_eq_true rfl⟩) hK hE hP (kz_recv 0 hK hP rfl rfl) rfl hl.1 rfl (Nat.le_of_ble_eq_true rfl) dX8_howMany_76 ⟨Nat.le_of_ble_eq_true rfl, Nat.le_of_ble_eq_true rfl⟩ ?_
      exact ro_ri hx hb hr hlk dX8_howMany_79 (by unfold F_count; rw [hs1]; rfl)
    · skip
      refine lv_tableIn (tgt := 80) (off := 79) hx hb dX8_howMany_1 (by decide) (by decide) rfl (by decide) ?_
      refine lv_aload_n hx hb dX8_howMany_80 rfl (lv_at hl 0 rfl) ?_
      refine va_get (ci := 8) (C := RX8) (T := TX8) (N := 38) hx hb hts inX8 hown hK hP 0 rfl rfl 11 (by decide) (hts _ wm_313) (fun _ h9 => h9) rfl dX8_howMany_81 ?_
      exact ro_ri hx hb hr hlk dX8_howMany_84 (by unfold F_count; rw [hs1]; rfl)
    · skip
      refine lv_tableIn (tgt := 85) (off := 84) hx hb dX8_howMany_1 (by decide) (by decide) rfl (by decide) ?_
      refine lv_aload_n hx hb dX8_howMany_85 rfl (lv_at hl 0 rfl) ?_
      refine va_get (ci := 8) (C := RX8) (T := TX8) (N := 38) hx hb hts inX8 hown hK hP 0 rfl rfl 17 (by decide) (hts _ wm_81) (fun _ h9 => h9) rfl dX8_howMany_86 ?_
      exact ro_ri hx hb hr hlk dX8_howMany_89 (by unfold F_count; rw [hs1]; rfl)
    · skip
      refine lv_tableIn (tgt := 90) (off := 89) hx hb dX8_howMany_1 (by decide) (by decide) rfl (by decide) ?_
      refine lv_aload_n hx hb dX8_howMany_90 rfl (lv_at hl 0 rfl) ?_
      refine va_get (ci := 8) (C := RX8) (T := TX8) (N := 38) hx hb hts inX8 hown hK hP 0 rfl rfl 0 (by decide) (hts _ wm_311) (fun _ h9 => h9) rfl dX8_howMany_91 ?_
      exact ro_ri hx hb hr hlk dX8_howMany_94 (by unfold F_count; rw [hs1]; rfl)
    · skip
      refine lv_tableIn (tgt := 95) (off := 94) hx hb dX8_howMany_1 (by decide) (by decide) rfl (by decide) ?_
      refine lv_aload_n hx hb dX8_howMany_95 rfl (lv_at hl 0 rfl) ?_
      refine va_get (ci := 8) (C := RX8) (T := TX8) (N := 38) hx hb hts inX8 hown hK hP 0 rfl rfl 16 (by decide) (hts _ wm_561) (fun _ h9 => h9) rfl dX8_howMany_96 ?_
      exact ro_ri hx hb hr hlk dX8_howMany_99 (by unfold F_count; rw [hs1]; rfl)
set_option maxHeartbeats 4000000 in
set_option maxRecDepth 100000 in
theorem c_X8_count (l : Launch) (D : va_G) (cy : Nat → ClassId) (ev : kz_V) (am : Nat → Nat) (g : Nat → Nat) (q : Nat → Nat → Nat) (kb : Bool) (sc : MSc) (hI : YI g q) (y : Int32) : Met l yX8_count (.code yX8_count cX8_count 2 (some .int) :: WB) { frames := 6, cells := 0, slots := 0, locals := 136 } (ro_Pc D cy ev [.ref (am 0), .int y] [zO (am 0) 8 [.int (nI (g 4)), .int (nI (g 0)), .int (nI (g 1)), .ref (am 1), .ref (am 2), .ref (am 3), .ref (am 4), .ref (am 5), .ref (am 6), .ref (am 7), .int (nI (g 9)), .int (nI (g 2)), .ref (am 8), .ref (am 9), .ref (am 10), .ref (am 11), .int (nI (g 5)), .int (nI (g 3)), .ref (am 12), .int (bI sc.1), .int (nI sc.2.1), .ref (am 13), .int sc.2.2.1, .long sc.2.2.2.1, .int (bI kb), .int (nI (g 6)), .int (nI (g 7)), .int (nI (g 10)), .int (nI (g 8)), .ref (am 14), .ref (am 15), .ref (am 16), .ref (am 17), .ref (am 18), .ref (am 19), .ref (am 20), .ref (am 21), .long sc.2.2.2.2.1], zI cy (am 1) 4 (fun i9 => nI ((q 0) i9)), zI cy (am 2) 4 (fun i9 => nI ((q 1) i9)), zI cy (am 3) 4 (fun i9 => nI ((q 2) i9)), zI cy (am 4) 4 (fun i9 => nI ((q 3) i9)), zI cy (am 5) 4 (fun i9 => nI ((q 5) i9)), zI cy (am 6) 4 (fun i9 => nI ((q 6) i9)), zJ cy (am 7) 4 (fun i9 => lN ((q 4) i9)), zI cy (am 8) 6 (fun i9 => nI ((q 12) i9)), zI cy (am 9) 6 (fun i9 => nI ((q 13) i9)), zI cy (am 10) 6 (fun i9 => nI ((q 14) i9)), zI cy (am 11) 6 (fun i9 => nI ((q 15) i9)), zB cy (am 12) 18 (fun i9 => nI ((q 7) i9)), zJ cy (am 13) 16 (fun i9 => lN (sc.2.2.2.2.2 i9)), zI cy (am 14) 4 (fun i9 => nI ((q 8) i9)), zI cy (am 15) 4 (fun i9 => nI ((q 10) i9)), zI cy (am 16) 4 (fun i9 => nI ((q 11) i9)), zJ cy (am 17) 4 (fun i9 => lN ((q 9) i9)), zI cy (am 18) 6 (fun i9 => nI ((q 16) i9)), zI cy (am 19) 6 (fun i9 => nI ((q 17) i9)), zI cy (am 20) 6 (fun i9 => nI ((q 18) i9)), zI cy (am 21) 6 (fun i9 => nI ((q 19) i9))]) (vp_Si (fun r => r = F_count g q y)) 0 0 (fun _ => False) := by
  refine Met.ofW (cc := cX8_count) (maxL := 2) (ret := (some .int)) (by decide) rfl ?_
  intro p e s m args below meth c s₁ B hml hv
  obtain ⟨rfl, hP, hK, hE⟩ := hv
  have hx := B.exec
  have hb := B.bytes
  have hr := B.returns
  have hlk := B.notSynchronized
  have hts : ∀ w ∈ WB, w.before _ s = true := fun w h => atoms_spec B.pre w (List.mem_cons_of_mem _ h)
  have hown : s.vm.findClass RX8 = some m.cls := findClass_of_methodNamed B.named
  have hl := lv_entry ([.ref (am 0), .int y]) (n := 2) (Nat.le_of_ble_eq_true rfl)
  rw [lg_entry_eq]
  generalize (lg_sl ([.ref (am 0), .int y]) ++ List.replicate (2 - (lg_sl ([.ref (am 0), .int y])).length) Slot.unset).toArray = ls at hl ⊢
  have hl : lv_has ls 2 [(0, .ref (am 0)), (1, .int y)] := hl
  refine lv_aload_n hx hb dX8_count_0 rfl (lv_at hl 0 rfl) ?_
  refine lv_iload_n hx hb dX8_count_1 rfl (lv_at hl 1 rfl) ?_
  refine ro_Vi (As := [.int y]) (rest := []) (v := F_count g q (y)) ⟨hx, hb, hml, hown, hts⟩ (c_X8_howMany l D cy ev am g q kb sc hI (y)) (kz_cwV 1 hts wm_711 wm_708 wm_709 wm_710 wm_5 rfl rfl (by decide +kernel) ⟨Nat.le_of_ble_eq_true rfl, Nat.le_of_ble_eq_true rfl⟩) hK hE hP (kz_recv 0 hK hP rfl rfl) rfl hl.1 rfl (Nat.le_of_ble_eq_true rfl) dX8_count_2 ⟨Nat.le_of_ble_eq_true rfl, Nat.le_of_ble_eq_true rfl⟩ ?_
  exact ro_ri hx hb hr hlk dX8_count_5 (rfl)
