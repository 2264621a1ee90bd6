theorem min4 {n : Nat} (hn : n ≤ 18) : (if nI ((n - 1) / 4) < nI 4 then nI ((n - 1) / 4) else nI 4) = nI (min 4 ((n - 1) / 4)) := by
  by_cases h : (n - 1) / 4 < 4
  · rw [if_pos (nI_lt h (by decide)), Nat.min_eq_right (by omega)]
  · rw [if_neg (nI_nlt (by omega) (by omega)), Nat.min_eq_left (by omega)]
set_option maxHeartbeats 4000000 in
set_option maxRecDepth 100000 in
theorem c_J0_coder_7d493 (l : Launch) (D : va_G) (cy : Nat → ClassId) (ev : kz_V)  : Met l yJ0_coder_7d493 (.code yJ0_coder_7d493 cJ0_coder_7d493 1 (some .byte) :: WB) { frames := 0, cells := 0, slots := 0, locals := 0 } (ro_Pc D cy ev [.ref ev.2.1] []) (vp_Si (fun r => r = nI 0)) 0 0 (fun _ => False) := by
  refine Met.ofW (cc := cJ0_coder_7d493) (maxL := 1) (ret := (some .byte)) (by decide) rfl ?_
  intro p e s m args below meth c s₁ B hml hv
  obtain ⟨rfl, hP, hK, hE⟩ := hv
  have hx := B.exec
  have hb := B.bytes
  have hr := B.returns
  have hlk := B.notSynchronized
  have hts : ∀ w ∈ WB, w.before _ s = true := fun w h => atoms_spec B.pre w (List.mem_cons_of_mem _ h)
  have hown : s.vm.findClass RJ0 = some m.cls := findClass_of_methodNamed B.named
  have hl := lv_entry ([.ref ev.2.1]) (n := 1) (Nat.le_of_ble_eq_true rfl)
  rw [lg_entry_eq]
  generalize (lg_sl ([.ref ev.2.1]) ++ List.replicate (1 - (lg_sl ([.ref ev.2.1])).length) Slot.unset).toArray = ls at hl ⊢
  have hl : lv_has ls 1 [(0, .ref ev.2.1)] := hl
  refine va_gets hx hb hE.2.2.2.1 va_S.rf hown (hts _ wm_127) (fun _ h9 => h9) dJ0_coder_7d493_0 ?_
  refine kn_as (st' := [.int (nI 1)]) rfl ?_
  refine kt_if_eq (tgt := 13) hx hb dJ0_coder_7d493_3 (by decide) (nI_toInt (by decide)) (fun c3 => absurd c3 (by omega)) (fun c3 => ?_)
  refine lv_aload_n hx hb dJ0_coder_7d493_6 rfl (lv_at hl 0 rfl) ?_
  refine vk_getf hx hb (hE.2.2.1.1 0 (by decide)).2.1 va_S.rf hown (hts _ wm_128) (fun _ h9 => h9) dJ0_coder_7d493_7 ?_
  refine kn_as (st' := [.int (nI 0)]) rfl ?_
  refine lv_goto (tgt := 14) hx hb dJ0_coder_7d493_10 (by decide) ?_
  exact W.zret hx hb hr rfl (fun t ht _ => ⟨_, rfl, rfl, ht⟩) (fun _ h => absurd h List.not_mem_nil) dJ0_coder_7d493_14 hlk
set_option maxHeartbeats 4000000 in
set_option maxRecDepth 100000 in
theorem c_J0_isLatin1_aae02 (l : Launch) (D : va_G) (cy : Nat → ClassId) (ev : kz_V)  : Met l yJ0_isLatin1_aae02 (.code yJ0_isLatin1_aae02 cJ0_isLatin1_aae02 1 (some .boolean) :: WB) { frames := 0, cells := 0, slots := 0, locals := 0 } (ro_Pc D cy ev [.ref ev.2.1] []) (vp_Si (fun r => r = bI true)) 0 0 (fun _ => False) := by
  refine Met.ofW (cc := cJ0_isLatin1_aae02) (maxL := 1) (ret := (some .boolean)) (by decide) rfl ?_
  intro p e s m args below meth c s₁ B hml hv
  obtain ⟨rfl, hP, hK, hE⟩ := hv
  have hx := B.exec
  have hb := B.bytes
  have hr := B.returns
  have hlk := B.notSynchronized
  have hts : ∀ w ∈ WB, w.before _ s = true := fun w h => atoms_spec B.pre w (List.mem_cons_of_mem _ h)
  have hown : s.vm.findClass RJ0 = some m.cls := findClass_of_methodNamed B.named
  have hl := lv_entry ([.ref ev.2.1]) (n := 1) (Nat.le_of_ble_eq_true rfl)
  rw [lg_entry_eq]
  generalize (lg_sl ([.ref ev.2.1]) ++ List.replicate (1 - (lg_sl ([.ref ev.2.1])).length) Slot.unset).toArray = ls at hl ⊢
  have hl : lv_has ls 1 [(0, .ref ev.2.1)] := hl
  refine va_gets hx hb hE.2.2.2.1 va_S.rf hown (hts _ wm_127) (fun _ h9 => h9) dJ0_isLatin1_aae02_0 ?_
  refine kn_as (st' := [.int (nI 1)]) rfl ?_
  refine kt_if_eq (tgt := 17) hx hb dJ0_isLatin1_aae02_3 (by decide) (nI_toInt (by decide)) (fun c3 => absurd c3 (by omega)) (fun c3 => ?_)
  refine lv_aload_n hx hb dJ0_isLatin1_aae02_6 rfl (lv_at hl 0 rfl) ?_
  refine vk_getf hx hb (hE.2.2.1.1 0 (by decide)).2.1 va_S.rf hown (hts _ wm_128) (fun _ h9 => h9) dJ0_isLatin1_aae02_7 ?_
  refine kn_as (st' := [.int (nI 0)]) rfl ?_
  refine kt_if_ne (tgt := 17) hx hb dJ0_isLatin1_aae02_10 (by decide) (nI_toInt (by decide)) (fun c10 => absurd c10 (by omega)) (fun c10 => ?_)
  refine lv_iconst (v := nI 1) hx hb dJ0_isLatin1_aae02_13 (by decide) ?_
  refine lv_goto (tgt := 18) hx hb dJ0_isLatin1_aae02_14 (by decide) ?_
  exact ro_rz hx hb hr hlk dJ0_isLatin1_aae02_18 rfl (rfl)
set_option maxHeartbeats 4000000 in
set_option maxRecDepth 100000 in
theorem c_J0_length_8abf5 (l : Launch) (D : va_G) (cy : Nat → ClassId) (ev : kz_V)  : Met l yJ0_length_8abf5 (.code yJ0_length_8abf5 cJ0_length_8abf5 1 (some .int) :: WB) { frames := 1, cells := 0, slots := 0, locals := 20 } (ro_Pc D cy ev [.ref ev.2.1] []) (vp_Si (fun r => r = nI 5)) 0 0 (fun _ => False) := by
  refine Met.ofW (cc := cJ0_length_8abf5) (maxL := 1) (ret := (some .int)) (by decide) rfl ?_
  intro p e s m args below meth c s₁ B hml hv
  obtain ⟨rfl, hP, hK, hE⟩ := hv
  have hx := B.exec
  have hb := B.bytes
  have hr := B.returns
  have hlk := B.notSynchronized
  have hts : ∀ w ∈ WB, w.before _ s = true := fun w h => atoms_spec B.pre w (List.mem_cons_of_mem _ h)
  have hown : s.vm.findClass RJ0 = some m.cls := findClass_of_methodNamed B.named
  have hl := lv_entry ([.ref ev.2.1]) (n := 1) (Nat.le_of_ble_eq_true rfl)
  rw [lg_entry_eq]
  generalize (lg_sl ([.ref ev.2.1]) ++ List.replicate (1 - (lg_sl ([.ref ev.2.1])).length) Slot.unset).toArray = ls at hl ⊢
  have hl : lv_has ls 1 [(0, .ref ev.2.1)] := hl
  refine lv_aload_n hx hb dJ0_length_8abf5_0 rfl (lv_at hl 0 rfl) ?_
  refine vk_getf hx hb (hE.2.2.1.1 0 (by decide)).2.2.1 va_S.rf hown (hts _ wm_122) (fun _ h9 => h9) dJ0_length_8abf5_1 ?_
  refine kn_as (st' := [.ref ev.2.2]) rfl ?_
  refine va_tlen (v := nI 5) hx hb (hE.2.2.1.1 0 (by decide)).2.2.2 va_S.rf rfl dJ0_length_8abf5_4 ?_
  refine lv_aload_n hx hb dJ0_length_8abf5_5 rfl (lv_at hl 0 rfl) ?_
  refine ro_Vi (As := []) (rest := [.int (nI 5)]) (v := nI 0) ⟨hx, hb, hml, hown, hts⟩ (c_J0_coder_7d493 l D cy ev) (kz_cwV 0 hts wm_136 wm_133 wm_134 wm_135 wm_116 rfl rfl (by decide +kernel) ⟨Nat.le_of_ble_eq_true rfl, Nat.le_of_ble_eq_true rfl⟩) hK hE (fun k q h => by simp at h) (vk_recv (i := 0) hE.2.2.1 (by decide) va_S.rf) rfl hl.1 rfl (Nat.le_of_ble_eq_true rfl) dJ0_length_8abf5_6 ⟨Nat.le_of_ble_eq_true rfl, Nat.le_of_ble_eq_true rfl⟩ ?_
  refine lv_ishr hx hb dJ0_length_8abf5_9 ?_
  exact ro_ri hx hb hr hlk dJ0_length_8abf5_10 (by decide)
set_option maxHeartbeats 4000000 in
set_option maxRecDepth 100000 in
theorem c_J1_canEncode_9a6ad (l : Launch) (D : va_G) (cy : Nat → ClassId) (ev : kz_V) (ch : Nat) (hc : ch ≤ 126) : Met l yJ1_canEncode_9a6ad (.code yJ1_canEncode_9a6ad cJ1_canEncode_9a6ad 1 (some .boolean) :: WB) { frames := 0, cells := 0, slots := 0, locals := 0 } (ro_Pc D cy ev [.int (nI ch)] []) (vp_Si (fun r => r = bI true)) 0 0 (fun _ => False) := by
  refine Met.ofW (cc := cJ1_canEncode_9a6ad) (maxL := 1) (ret := (some .boolean)) (by decide) rfl ?_
  intro p e s m args below meth c s₁ B hml hv
  obtain ⟨rfl, hP, hK, hE⟩ := hv
  have hx := B.exec
  have hb := B.bytes
  have hr := B.returns
  have hlk := B.notSynchronized
  have hts : ∀ w ∈ WB, w.before _ s = true := fun w h => atoms_spec B.pre w (List.mem_cons_of_mem _ h)
  have hown : s.vm.findClass RJ1 = some m.cls := findClass_of_methodNamed B.named
  have hl := lv_entry ([.int (nI ch)]) (n := 1) (Nat.le_of_ble_eq_true rfl)
  rw [lg_entry_eq]
  generalize (lg_sl ([.int (nI ch)]) ++ List.replicate (1 - (lg_sl ([.int (nI ch)])).length) Slot.unset).toArray = ls at hl ⊢
  have hl : lv_has ls 1 [(0, .int (nI ch))] := hl
  refine lv_iload_n hx hb dJ1_canEncode_9a6ad_0 rfl (lv_at hl 0 rfl) ?_
  refine kt_if_lt (tgt := 15) hx hb dJ1_canEncode_9a6ad_1 (by decide) (nI_toInt (by omega)) (fun c1 => absurd c1 (by omega)) (fun c1 => ?_)
  refine lv_iload_n hx hb dJ1_canEncode_9a6ad_4 rfl (lv_at hl 0 rfl) ?_
  refine lv_sipush (v := nI 255) hx hb dJ1_canEncode_9a6ad_5 (by decide) ?_
  refine kt_icmp_gt (tgt := 15) hx hb dJ1_canEncode_9a6ad_8 (by decide) (nI_toInt (by omega)) (nI_toInt (by decide)) (fun c8 => absurd c8 (by omega)) (fun c8 => ?_)
  refine lv_iconst (v := nI 1) hx hb dJ1_canEncode_9a6ad_11 (by decide) ?_
  refine lv_goto (tgt := 16) hx hb dJ1_canEncode_9a6ad_12 (by decide) ?_
  exact ro_rz hx hb hr hlk dJ1_canEncode_9a6ad_16 rfl (rfl)
set_option maxHeartbeats 4000000 in
set_option maxRecDepth 100000 in
theorem c_J1_indexOfChar_4cfef (l : Launch) (D : va_G) (cy : Nat → ClassId) (ev : kz_V) (ch : Nat) (hc : ch ≤ 126) : Met l yJ1_indexOfChar_4cfef (.code yJ1_indexOfChar_4cfef cJ1_indexOfChar_4cfef 6 (some .int) :: WB) { frames := 0, cells := 0, slots := 0, locals := 0 } (ro_Pc D cy ev [.ref ev.2.2, .int (nI ch), .int (nI 0), .int (nI 5)] []) (vp_Si (fun r => r = kI ch)) 0 0 (fun _ => False) := by
  refine Met.ofW (cc := cJ1_indexOfChar_4cfef) (maxL := 6) (ret := (some .int)) (by decide) rfl ?_
  intro p e s m args below meth c s₁ B hml hv
  obtain ⟨rfl, hP, hK, hE⟩ := hv
  have hx := B.exec
  have hb := B.bytes
  have hr := B.returns
  have hlk := B.notSynchronized
  have hts : ∀ w ∈ WB, w.before _ s = true := fun w h => atoms_spec B.pre w (List.mem_cons_of_mem _ h)
  have hown : s.vm.findClass RJ1 = some m.cls := findClass_of_methodNamed B.named
  have hl := lv_entry ([.ref ev.2.2, .int (nI ch), .int (nI 0), .int (nI 5)]) (n := 6) (Nat.le_of_ble_eq_true rfl)
  rw [lg_entry_eq]
  generalize (lg_sl ([.ref ev.2.2, .int (nI ch), .int (nI 0), .int (nI 5)]) ++ List.replicate (6 - (lg_sl ([.ref ev.2.2, .int (nI ch), .int (nI 0), .int (nI 5)])).length) Slot.unset).toArray = ls at hl ⊢
  have hl : lv_has ls 6 [(0, .ref ev.2.2), (1, .int (nI ch)), (2, .int (nI 0)), (3, .int (nI 5))] := hl
  refine lv_iload_n hx hb dJ1_indexOfChar_4cfef_0 rfl (lv_at hl 1 rfl) ?_
  refine lv_i2b (v := nI ch) hx hb dJ1_indexOfChar_4cfef_1 (b128 ch (by omega)).1 ?_
  refine lv_istore (lv' := [(4, .int (nI ch)), (0, .ref ev.2.2), (1, .int (nI ch)), (2, .int (nI 0)), (3, .int (nI 5))]) hx hb dJ1_indexOfChar_4cfef_2 hl (by decide) rfl (fun ls hl => ?_)
  refine lv_iload_n hx hb dJ1_indexOfChar_4cfef_4 rfl (lv_at hl 3 rfl) ?_
  refine lv_istore (lv' := [(5, .int (nI 0)), (4, .int (nI ch)), (0, .ref ev.2.2), (1, .int (nI ch)), (2, .int (nI 0)), (3, .int (nI 5))]) hx hb dJ1_indexOfChar_4cfef_5 hl (by decide) rfl (fun ls hl => ?_)
  refine lv_iload hx hb dJ1_indexOfChar_4cfef_7 (lv_at hl 0 rfl) ?_
  refine lv_iload_n hx hb dJ1_indexOfChar_4cfef_9 rfl (lv_at hl 5 rfl) ?_
  refine kt_icmp_ge (tgt := 31) hx hb dJ1_indexOfChar_4cfef_10 (by decide) (nI_toInt (by decide)) (nI_toInt (by decide)) (fun c10 => absurd c10 (by omega)) (fun c10 => ?_)
  refine lv_aload_n hx hb dJ1_indexOfChar_4cfef_13 rfl (lv_at hl 2 rfl) ?_
  refine lv_iload hx hb dJ1_indexOfChar_4cfef_14 (lv_at hl 0 rfl) ?_
  refine va_tb (v := .int (nI 112)) hx hb (hE.2.2.1.1 0 (by decide)).2.2.2 va_S.rf (vp_in_nI (by decide) (by decide)) rfl dJ1_indexOfChar_4cfef_16 ?_
  refine lv_iload hx hb dJ1_indexOfChar_4cfef_17 (lv_at hl 1 rfl) ?_
  refine kt_icmp_ne (tgt := 25) hx hb dJ1_indexOfChar_4cfef_19 (by decide) (nI_toInt (by decide)) (nI_toInt (by omega)) (fun c19 => ?_) (fun c19 => ?_)
  · skip
    refine kn_iinc (k := 0) (x := 0) (d := 1) (lv' := [(5, .int (nI 1)), (4, .int (nI ch)), (0, .ref ev.2.2), (1, .int (nI ch)), (2, .int (nI 0)), (3, .int (nI 5))]) hx hb dJ1_indexOfChar_4cfef_25 hl rfl (by decide) rfl (fun ls hl => ?_)
    refine lv_goto (tgt := 7) hx hb dJ1_indexOfChar_4cfef_28 (by decide) ?_
    refine lv_iload hx hb dJ1_indexOfChar_4cfef_7 (lv_at hl 0 rfl) ?_
    refine lv_iload_n hx hb dJ1_indexOfChar_4cfef_9 rfl (lv_at hl 5 rfl) ?_
    refine kt_icmp_ge (tgt := 31) hx hb dJ1_indexOfChar_4cfef_10 (by decide) (nI_toInt (by decide)) (nI_toInt (by decide)) (fun c10 => absurd c10 (by omega)) (fun c10 => ?_)
    refine lv_aload_n hx hb dJ1_indexOfChar_4cfef_13 rfl (lv_at hl 2 rfl) ?_
    refine lv_iload hx hb dJ1_indexOfChar_4cfef_14 (lv_at hl 0 rfl) ?_
    refine va_tb (v := .int (nI 104)) hx hb (hE.2.2.1.1 0 (by decide)).2.2.2 va_S.rf (vp_in_nI (by decide) (by decide)) rfl dJ1_indexOfChar_4cfef_16 ?_
    refine lv_iload hx hb dJ1_indexOfChar_4cfef_17 (lv_at hl 1 rfl) ?_
    refine kt_icmp_ne (tgt := 25) hx hb dJ1_indexOfChar_4cfef_19 (by decide) (nI_toInt (by decide)) (nI_toInt (by omega)) (fun c19 => ?_) (fun c19 => ?_)
    · skip
      refine kn_iinc (k := 0) (x := 1) (d := 1) (lv' := [(5, .int (nI 2)), (4, .int (nI ch)), (0, .ref ev.2.2), (1, .int (nI ch)), (2, .int (nI 0)), (3, .int (nI 5))]) hx hb dJ1_indexOfChar_4cfef_25 hl rfl (by decide) rfl (fun ls hl => ?_)
      refine lv_goto (tgt := 7) hx hb dJ1_indexOfChar_4cfef_28 (by decide) ?_
      refine lv_iload hx hb dJ1_indexOfChar_4cfef_7 (lv_at hl 0 rfl) ?_
      refine lv_iload_n hx hb dJ1_indexOfChar_4cfef_9 rfl (lv_at hl 5 rfl) ?_
      refine kt_icmp_ge (tgt := 31) hx hb dJ1_indexOfChar_4cfef_10 (by decide) (nI_toInt (by decide)) (nI_toInt (by decide)) (fun c10 => absurd c10 (by omega)) (fun c10 => ?_)
      refine lv_aload_n hx hb dJ1_indexOfChar_4cfef_13 rfl (lv_at hl 2 rfl) ?_
      refine lv_iload hx hb dJ1_indexOfChar_4cfef_14 (lv_at hl 0 rfl) ?_
      refine va_tb (v := .int (nI 119)) hx hb (hE.2.2.1.1 0 (by decide)).2.2.2 va_S.rf (vp_in_nI (by decide) (by decide)) rfl dJ1_indexOfChar_4cfef_16 ?_
      refine lv_iload hx hb dJ1_indexOfChar_4cfef_17 (lv_at hl 1 rfl) ?_
      refine kt_icmp_ne (tgt := 25) hx hb dJ1_indexOfChar_4cfef_19 (by decide) (nI_toInt (by decide)) (nI_toInt (by omega)) (fun c19 => ?_) (fun c19 => ?_)
      · skip
        refine kn_iinc (k := 0) (x := 2) (d := 1) (lv' := [(5, .int (nI 3)), (4, .int (nI ch)), (0, .ref ev.2.2), (1, .int (nI ch)), (2, .int (nI 0)), (3, .int (nI 5))]) hx hb dJ1_indexOfChar_4cfef_25 hl rfl (by decide) rfl (fun ls hl => ?_)
        refine lv_goto (tgt := 7) hx hb dJ1_indexOfChar_4cfef_28 (by decide) ?_
        refine lv_iload hx hb dJ1_indexOfChar_4cfef_7 (lv_at hl 0 rfl) ?_
        refine lv_iload_n hx hb dJ1_indexOfChar_4cfef_9 rfl (lv_at hl 5 rfl) ?_
        refine kt_icmp_ge (tgt := 31) hx hb dJ1_indexOfChar_4cfef_10 (by decide) (nI_toInt (by decide)) (nI_toInt (by decide)) (fun c10 => absurd c10 (by omega)) (fun c10 => ?_)
        refine lv_aload_n hx hb dJ1_indexOfChar_4cfef_13 rfl (lv_at hl 2 rfl) ?_
        refine lv_iload hx hb dJ1_indexOfChar_4cfef_14 (lv_at hl 0 rfl) ?_
        refine va_tb (v := .int (nI 114)) hx hb (hE.2.2.1.1 0 (by decide)).2.2.2 va_S.rf (vp_in_nI (by decide) (by decide)) rfl dJ1_indexOfChar_4cfef_16 ?_
        refine lv_iload hx hb dJ1_indexOfChar_4cfef_17 (lv_at hl 1 rfl) ?_
        refine kt_icmp_ne (tgt := 25) hx hb dJ1_indexOfChar_4cfef_19 (by decide) (nI_toInt (by decide)) (nI_toInt (by omega)) (fun c19 => ?_) (fun c19 => ?_)
        · skip
          refine kn_iinc (k := 0) (x := 3) (d := 1) (lv' := [(5, .int (nI 4)), (4, .int (nI ch)), (0, .ref ev.2.2), (1, .int (nI ch)), (2, .int (nI 0)), (3, .int (nI 5))]) hx hb dJ1_indexOfChar_4cfef_25 hl rfl (by decide) rfl (fun ls hl => ?_)
          refine lv_goto (tgt := 7) hx hb dJ1_indexOfChar_4cfef_28 (by decide) ?_
          refine lv_iload hx hb dJ1_indexOfChar_4cfef_7 (lv_at hl 0 rfl) ?_
          refine lv_iload_n hx hb dJ1_indexOfChar_4cfef_9 rfl (lv_at hl 5 rfl) ?_
          refine kt_icmp_ge (tgt := 31) hx hb dJ1_indexOfChar_4cfef_10 (by decide) (nI_toInt (by decide)) (nI_toInt (by decide)) (fun c10 => absurd c10 (by omega)) (fun c10 => ?_)
          refine lv_aload_n hx hb dJ1_indexOfChar_4cfef_13 rfl (lv_at hl 2 rfl) ?_
          refine lv_iload hx hb dJ1_indexOfChar_4cfef_14 (lv_at hl 0 rfl) ?_
          refine va_tb (v := .int (nI 116)) hx hb (hE.2.2.1.1 0 (by decide)).2.2.2 va_S.rf (vp_in_nI (by decide) (by decide)) rfl dJ1_indexOfChar_4cfef_16 ?_
          refine lv_iload hx hb dJ1_indexOfChar_4cfef_17 (lv_at hl 1 rfl) ?_
          refine kt_icmp_ne (tgt := 25) hx hb dJ1_indexOfChar_4cfef_19 (by decide) (nI_toInt (by decide)) (nI_toInt (by omega)) (fun c19 => ?_) (fun c19 => ?_)
          · skip
            refine kn_iinc (k := 0) (x := 4) (d := 1) (lv' := [(5, .int (nI 5)), (4, .int (nI ch)), (0, .ref ev.2.2), (1, .int (nI ch)), (2, .int (nI 0)), (3, .int (nI 5))]) hx hb dJ1_indexOfChar_4cfef_25 hl rfl (by decide) rfl (fun ls hl => ?_)
            refine lv_goto (tgt := 7) hx hb dJ1_indexOfChar_4cfef_28 (by decide) ?_
            refine lv_iload hx hb dJ1_indexOfChar_4cfef_7 (lv_at hl 0 rfl) ?_
            refine lv_iload_n hx hb dJ1_indexOfChar_4cfef_9 rfl (lv_at hl 5 rfl) ?_
            refine kt_icmp_ge (tgt := 31) hx hb dJ1_indexOfChar_4cfef_10 (by decide) (nI_toInt (by decide)) (nI_toInt (by decide)) (fun c10 => ?_) (fun c10 => absurd c10 (by omega))
            refine lv_iconst (v := (-1)) hx hb dJ1_indexOfChar_4cfef_31 (by decide) ?_
            exact ro_ri hx hb hr hlk dJ1_indexOfChar_4cfef_32 (by unfold kI; rw [if_neg (by omega), if_neg (by omega), if_neg (by omega), if_neg (by omega), if_neg (by omega)])
          · skip
            refine lv_iload hx hb dJ1_indexOfChar_4cfef_22 (lv_at hl 0 rfl) ?_
            exact ro_ri hx hb hr hlk dJ1_indexOfChar_4cfef_24 (by unfold kI; rw [if_neg (by omega), if_neg (by omega), if_neg (by omega), if_neg (by omega), if_pos (by omega)])
        · skip
          refine lv_iload hx hb dJ1_indexOfChar_4cfef_22 (lv_at hl 0 rfl) ?_
          exact ro_ri hx hb hr hlk dJ1_indexOfChar_4cfef_24 (by unfold kI; rw [if_neg (by omega), if_neg (by omega), if_neg (by omega), if_pos (by omega)])
      · skip
        refine lv_iload hx hb dJ1_indexOfChar_4cfef_22 (lv_at hl 0 rfl) ?_
        exact ro_ri hx hb hr hlk dJ1_indexOfChar_4cfef_24 (by unfold kI; rw [if_neg (by omega), if_neg (by omega), if_pos (by omega)])
    · skip
      refine lv_iload hx hb dJ1_indexOfChar_4cfef_22 (lv_at hl 0 rfl) ?_
      exact ro_ri hx hb hr hlk dJ1_indexOfChar_4cfef_24 (by unfold kI; rw [if_neg (by omega), if_pos (by omega)])
  · skip
    refine lv_iload hx hb dJ1_indexOfChar_4cfef_22 (lv_at hl 0 rfl) ?_
    exact ro_ri hx hb hr hlk dJ1_indexOfChar_4cfef_24 (by unfold kI; rw [if_pos (by omega)])
set_option maxHeartbeats 4000000 in
set_option maxRecDepth 100000 in
theorem c_J1_indexOf_4cfef (l : Launch) (D : va_G) (cy : Nat → ClassId) (ev : kz_V) (ch : Nat) (hc : ch ≤ 126) : Met l yJ1_indexOf_4cfef (.code yJ1_indexOf_4cfef cJ1_indexOf_4cfef 4 (some .int) :: WB) { frames := 1, cells := 0, slots := 0, locals := 25 } (ro_Pc D cy ev [.ref ev.2.2, .int (nI ch), .int (nI 0), .int (nI 5)] []) (vp_Si (fun r => r = kI ch)) 0 0 (fun _ => False) := by
  refine Met.ofW (cc := cJ1_indexOf_4cfef) (maxL := 4) (ret := (some .int)) (by decide) rfl ?_
  intro p e s m args below meth c s₁ B hml hv
  obtain ⟨rfl, hP, hK, hE⟩ := hv
  have hx := B.exec
  have hb := B.bytes
  have hr := B.returns
  have hlk := B.notSynchronized
  have hts : ∀ w ∈ WB, w.before _ s = true := fun w h => atoms_spec B.pre w (List.mem_cons_of_mem _ h)
  have hown : s.vm.findClass RJ1 = some m.cls := findClass_of_methodNamed B.named
  have hl := lv_entry ([.ref ev.2.2, .int (nI ch), .int (nI 0), .int (nI 5)]) (n := 4) (Nat.le_of_ble_eq_true rfl)
  rw [lg_entry_eq]
  generalize (lg_sl ([.ref ev.2.2, .int (nI ch), .int (nI 0), .int (nI 5)]) ++ List.replicate (4 - (lg_sl ([.ref ev.2.2, .int (nI ch), .int (nI 0), .int (nI 5)])).length) Slot.unset).toArray = ls at hl ⊢
  have hl : lv_has ls 4 [(0, .ref ev.2.2), (1, .int (nI ch)), (2, .int (nI 0)), (3, .int (nI 5))] := hl
  refine lv_iload_n hx hb dJ1_indexOf_4cfef_0 rfl (lv_at hl 1 rfl) ?_
  refine ro_Si (As := [.int (nI ch)]) (rest := []) (v := bI true) ⟨hx, hb, hml, hown, hts⟩ (c_J1_canEncode_9a6ad l D cy ev ch (by omega)) (kz_cwS 1 hts wm_150 wm_148 wm_149 wm_139 rfl rfl (by decide +kernel) ⟨Nat.le_of_ble_eq_true rfl, Nat.le_of_ble_eq_true rfl⟩) hK hE (fun k q h => by simp at h) rfl hl.1 rfl (Nat.le_of_ble_eq_true rfl) dJ1_indexOf_4cfef_1 ⟨Nat.le_of_ble_eq_true rfl, Nat.le_of_ble_eq_true rfl⟩ ?_
  refine kt_ifB_ne (tgt := 9) hx hb dJ1_indexOf_4cfef_4 (by decide) (fun c4 => ?_) (fun c4 => absurd c4 (by decide))
  refine lv_iload_n hx hb dJ1_indexOf_4cfef_9 rfl (lv_at hl 2 rfl) ?_
  refine lv_iconst (v := nI 0) hx hb dJ1_indexOf_4cfef_10 (by decide) ?_
  refine va_mmax hx hb (hml.trans hl.1.symm) hown (hts _ wm_141) (hts _ wm_142) (hts _ wm_143) (hts _ wm_144) (Nat.le_of_ble_eq_true rfl) (Nat.le_of_ble_eq_true rfl) (Nat.le_of_ble_eq_true rfl) (Nat.le_of_ble_eq_true rfl) dJ1_indexOf_4cfef_11 ?_
  refine kn_as (st' := [.int (nI 0)]) (rfl) ?_
  refine lv_istore_n (lv' := [(2, .int (nI 0)), (0, .ref ev.2.2), (1, .int (nI ch)), (3, .int (nI 5))]) hx hb dJ1_indexOf_4cfef_14 rfl hl (by decide) rfl (fun ls hl => ?_)
  refine lv_iload_n hx hb dJ1_indexOf_4cfef_15 rfl (lv_at hl 3 rfl) ?_
  refine lv_aload_n hx hb dJ1_indexOf_4cfef_16 rfl (lv_at hl 1 rfl) ?_
  refine va_tlen (v := nI 5) hx hb (hE.2.2.1.1 0 (by decide)).2.2.2 va_S.rf rfl dJ1_indexOf_4cfef_17 ?_
  refine va_mmin hx hb (hml.trans hl.1.symm) hown (hts _ wm_145) (hts _ wm_146) (hts _ wm_143) (hts _ wm_147) (Nat.le_of_ble_eq_true rfl) (Nat.le_of_ble_eq_true rfl) (Nat.le_of_ble_eq_true rfl) (Nat.le_of_ble_eq_true rfl) dJ1_indexOf_4cfef_18 ?_
  refine kn_as (st' := [.int (nI 5)]) (rfl) ?_
  refine lv_istore_n (lv' := [(3, .int (nI 5)), (2, .int (nI 0)), (0, .ref ev.2.2), (1, .int (nI ch))]) hx hb dJ1_indexOf_4cfef_21 rfl hl (by decide) rfl (fun ls hl => ?_)
  refine lv_iload_n hx hb dJ1_indexOf_4cfef_22 rfl (lv_at hl 1 rfl) ?_
  refine lv_iload_n hx hb dJ1_indexOf_4cfef_23 rfl (lv_at hl 0 rfl) ?_
  refine kt_icmp_lt (tgt := 29) hx hb dJ1_indexOf_4cfef_24 (by decide) (nI_toInt (by decide)) (nI_toInt (by decide)) (fun c24 => ?_) (fun c24 => absurd c24 (by omega))
  refine lv_aload_n hx hb dJ1_indexOf_4cfef_29 rfl (lv_at hl 2 rfl) ?_
  refine lv_iload_n hx hb dJ1_indexOf_4cfef_30 rfl (lv_at hl 3 rfl) ?_
  refine lv_iload_n hx hb dJ1_indexOf_4cfef_31 rfl (lv_at hl 1 rfl) ?_
  refine lv_iload_n hx hb dJ1_indexOf_4cfef_32 rfl (lv_at hl 0 rfl) ?_
  refine ro_Si (As := [.ref ev.2.2, .int (nI ch), .int (nI 0), .int (nI 5)]) (rest := []) (v := kI ch) ⟨hx, hb, hml, hown, hts⟩ (c_J1_indexOfChar_4cfef l D cy ev ch (by omega)) (kz_cwS 4 hts wm_153 wm_151 wm_152 wm_139 rfl rfl (by decide +kernel) ⟨Nat.le_of_ble_eq_true rfl, Nat.le_of_ble_eq_true rfl⟩) hK hE (fun k q h => by simp at h) rfl hl.1 rfl (Nat.le_of_ble_eq_true rfl) dJ1_indexOf_4cfef_33 ⟨Nat.le_of_ble_eq_true rfl, Nat.le_of_ble_eq_true rfl⟩ ?_
  exact ro_ri hx hb hr hlk dJ1_indexOf_4cfef_36 (rfl)
set_option maxHeartbeats 4000000 in
set_option maxRecDepth 100000 in
theorem c_J0_indexOf_7cf53 (l : Launch) (D : va_G) (cy : Nat → ClassId) (ev : kz_V) (ch : Nat) (hc : ch ≤ 126) : Met l yJ0_indexOf_7cf53 (.code yJ0_indexOf_7cf53 cJ0_indexOf_7cf53 3 (some .int) :: WB) { frames := 2, cells := 0, slots := 0, locals := 48 } (ro_Pc D cy ev [.ref ev.2.1, .int (nI ch), .int (nI 0)] []) (vp_Si (fun r => r = kI ch)) 0 0 (fun _ => False) := by
  refine Met.ofW (cc := cJ0_indexOf_7cf53) (maxL := 3) (ret := (some .int)) (by decide) rfl ?_
  intro p e s m args below meth c s₁ B hml hv
  obtain ⟨rfl, hP, hK, hE⟩ := hv
  have hx := B.exec
  have hb := B.bytes
  have hr := B.returns
  have hlk := B.notSynchronized
  have hts : ∀ w ∈ WB, w.before _ s = true := fun w h => atoms_spec B.pre w (List.mem_cons_of_mem _ h)
  have hown : s.vm.findClass RJ0 = some m.cls := findClass_of_methodNamed B.named
  have hl := lv_entry ([.ref ev.2.1, .int (nI ch), .int (nI 0)]) (n := 3) (Nat.le_of_ble_eq_true rfl)
  rw [lg_entry_eq]
  generalize (lg_sl ([.ref ev.2.1, .int (nI ch), .int (nI 0)]) ++ List.replicate (3 - (lg_sl ([.ref ev.2.1, .int (nI ch), .int (nI 0)])).length) Slot.unset).toArray = ls at hl ⊢
  have hl : lv_has ls 3 [(0, .ref ev.2.1), (1, .int (nI ch)), (2, .int (nI 0))] := hl
  refine lv_aload_n hx hb dJ0_indexOf_7cf53_0 rfl (lv_at hl 0 rfl) ?_
  refine ro_Vi (As := []) (rest := []) (v := bI true) ⟨hx, hb, hml, hown, hts⟩ (c_J0_isLatin1_aae02 l D cy ev) (kz_cwV 0 hts wm_126 wm_123 wm_124 wm_125 wm_116 rfl rfl (by decide +kernel) ⟨Nat.le_of_ble_eq_true rfl, Nat.le_of_ble_eq_true rfl⟩) hK hE (fun k q h => by simp at h) (vk_recv (i := 0) hE.2.2.1 (by decide) va_S.rf) rfl hl.1 rfl (Nat.le_of_ble_eq_true rfl) dJ0_indexOf_7cf53_1 ⟨Nat.le_of_ble_eq_true rfl, Nat.le_of_ble_eq_true rfl⟩ ?_
  refine kt_ifB_eq (tgt := 23) hx hb dJ0_indexOf_7cf53_4 (by decide) (fun c4 => absurd c4 (by decide)) (fun c4 => ?_)
  refine lv_aload_n hx hb dJ0_indexOf_7cf53_7 rfl (lv_at hl 0 rfl) ?_
  refine vk_getf hx hb (hE.2.2.1.1 0 (by decide)).2.2.1 va_S.rf hown (hts _ wm_122) (fun _ h9 => h9) dJ0_indexOf_7cf53_8 ?_
  refine kn_as (st' := [.ref ev.2.2]) rfl ?_
  refine lv_iload_n hx hb dJ0_indexOf_7cf53_11 rfl (lv_at hl 1 rfl) ?_
  refine lv_iload_n hx hb dJ0_indexOf_7cf53_12 rfl (lv_at hl 2 rfl) ?_
  refine lv_aload_n hx hb dJ0_indexOf_7cf53_13 rfl (lv_at hl 0 rfl) ?_
  refine ro_Vi (As := []) (rest := [.int (nI 0), .int (nI ch), .ref ev.2.2]) (v := nI 5) ⟨hx, hb, hml, hown, hts⟩ (c_J0_length_8abf5 l D cy ev) (kz_cwV 0 hts wm_132 wm_129 wm_130 wm_131 wm_116 rfl rfl (by decide +kernel) ⟨Nat.le_of_ble_eq_true rfl, Nat.le_of_ble_eq_true rfl⟩) hK hE (fun k q h => by simp at h) (vk_recv (i := 0) hE.2.2.1 (by decide) va_S.rf) rfl hl.1 rfl (Nat.le_of_ble_eq_true rfl) dJ0_indexOf_7cf53_14 ⟨Nat.le_of_ble_eq_true rfl, Nat.le_of_ble_eq_true rfl⟩ ?_
  refine ro_Si (As := [.ref ev.2.2, .int (nI ch), .int (nI 0), .int (nI 5)]) (rest := []) (v := kI ch) ⟨hx, hb, hml, hown, hts⟩ (c_J1_indexOf_4cfef l D cy ev ch (by omega)) (kz_cwS 4 hts wm_140 wm_137 wm_138 wm_139 rfl rfl (by decide +kernel) ⟨Nat.le_of_ble_eq_true rfl, Nat.le_of_ble_eq_true rfl⟩) hK hE (fun k q h => by simp at h) rfl hl.1 rfl (Nat.le_of_ble_eq_true rfl) dJ0_indexOf_7cf53_17 ⟨Nat.le_of_ble_eq_true rfl, Nat.le_of_ble_eq_true rfl⟩ ?_
  refine lv_goto (tgt := 36) hx hb dJ0_indexOf_7cf53_20 (by decide) ?_
  exact ro_ri hx hb hr hlk dJ0_indexOf_7cf53_36 (rfl)
set_option maxHeartbeats 4000000 in
set_option maxRecDepth 100000 in
theorem c_J0_indexOf_0f7a4 (l : Launch) (D : va_G) (cy : Nat → ClassId) (ev : kz_V) (ch : Nat) (hc : ch ≤ 126) : Met l yJ0_indexOf_0f7a4 (.code yJ0_indexOf_0f7a4 cJ0_indexOf_0f7a4 2 (some .int) :: WB) { frames := 3, cells := 0, slots := 0, locals := 70 } (ro_Pc D cy ev [.ref ev.2.1, .int (nI ch)] []) (vp_Si (fun r => r = kI ch)) 0 0 (fun _ => False) := by
  refine Met.ofW (cc := cJ0_indexOf_0f7a4) (maxL := 2) (ret := (some .int)) (by decide) rfl ?_
  intro p e s m args below meth c s₁ B hml hv
  obtain ⟨rfl, hP, hK, hE⟩ := hv
  have hx := B.exec
  have hb := B.bytes
  have hr := B.returns
  have hlk := B.notSynchronized
  have hts : ∀ w ∈ WB, w.before _ s = true := fun w h => atoms_spec B.pre w (List.mem_cons_of_mem _ h)
  have hown : s.vm.findClass RJ0 = some m.cls := findClass_of_methodNamed B.named
  have hl := lv_entry ([.ref ev.2.1, .int (nI ch)]) (n := 2) (Nat.le_of_ble_eq_true rfl)
  rw [lg_entry_eq]
  generalize (lg_sl ([.ref ev.2.1, .int (nI ch)]) ++ List.replicate (2 - (lg_sl ([.ref ev.2.1, .int (nI ch)])).length) Slot.unset).toArray = ls at hl ⊢
  have hl : lv_has ls 2 [(0, .ref ev.2.1), (1, .int (nI ch))] := hl
  refine lv_aload_n hx hb dJ0_indexOf_0f7a4_0 rfl (lv_at hl 0 rfl) ?_
  refine lv_iload_n hx hb dJ0_indexOf_0f7a4_1 rfl (lv_at hl 1 rfl) ?_
  refine lv_iconst (v := nI 0) hx hb dJ0_indexOf_0f7a4_2 (by decide) ?_
  refine ro_Vi (As := [.int (nI ch), .int (nI 0)]) (rest := []) (v := kI ch) ⟨hx, hb, hml, hown, hts⟩ (c_J0_indexOf_7cf53 l D cy ev ch (by omega)) (kz_cwV 2 hts wm_121 wm_118 wm_119 wm_120 wm_116 rfl rfl (by decide +kernel) ⟨Nat.le_of_ble_eq_true rfl, Nat.le_of_ble_eq_true rfl⟩) hK hE (fun k q h => by simp at h) (vk_recv (i := 0) hE.2.2.1 (by decide) va_S.rf) rfl hl.1 rfl (Nat.le_of_ble_eq_true rfl) dJ0_indexOf_0f7a4_3 ⟨Nat.le_of_ble_eq_true rfl, Nat.le_of_ble_eq_true rfl⟩ ?_
  exact ro_ri hx hb hr hlk dJ0_indexOf_0f7a4_6 (rfl)
set_option maxHeartbeats 4000000 in
set_option maxRecDepth 100000 in
theorem c_X1_codeAt (l : Launch) (D : va_G) (cy : Nat → ClassId) (ev : kz_V) (a b : Nat) (pg : Nat → Nat) (n : Nat) (hn : n ≤ 18) (hpg : ∀ i, i < n → 32 ≤ pg i ∧ pg i ≤ 126) (j : Nat) (hj : j < 1000) : Met l yX1_codeAt (.code yX1_codeAt cX1_codeAt 2 (some .int) :: WB) { frames := 0, cells := 0, slots := 0, locals := 0 } (ro_Pc D cy ev [.ref a, .int (nI j)] [zO a 1 [.ref b, .int (nI n)], zI cy b 18 (fun i9 => nI (pg i9))]) (vp_Si (fun r => r = nI (cd pg n j))) 0 0 (fun _ => False) := by
  refine Met.ofW (cc := cX1_codeAt) (maxL := 2) (ret := (some .int)) (by decide) rfl ?_
  intro p e s m args below meth c s₁ B hml hv
  obtain ⟨rfl, hP, hK, hE⟩ := hv
  have hx := B.exec
  have hb := B.bytes
  have hr := B.returns
  have hlk := B.notSynchronized
  have hts : ∀ w ∈ WB, w.before _ s = true := fun w h => atoms_spec B.pre w (List.mem_cons_of_mem _ h)
  have hown : s.vm.findClass RX1 = some m.cls := findClass_of_methodNamed B.named
  have hl := lv_entry ([.ref a, .int (nI j)]) (n := 2) (Nat.le_of_ble_eq_true rfl)
  rw [lg_entry_eq]
  generalize (lg_sl ([.ref a, .int (nI j)]) ++ List.replicate (2 - (lg_sl ([.ref a, .int (nI j)])).length) Slot.unset).toArray = ls at hl ⊢
  have hl : lv_has ls 2 [(0, .ref a), (1, .int (nI j))] := hl
  refine lv_iload_n hx hb dX1_codeAt_0 rfl (lv_at hl 1 rfl) ?_
  refine kt_if_lt (tgt := 18) hx hb dX1_codeAt_1 (by decide) (nI_toInt (by omega)) (fun c1 => absurd c1 (by omega)) (fun c1 => ?_)
  refine lv_iload_n hx hb dX1_codeAt_4 rfl (lv_at hl 1 rfl) ?_
  refine lv_aload_n hx hb dX1_codeAt_5 rfl (lv_at hl 0 rfl) ?_
  refine va_get (ci := 1) (C := RX1) (T := TX1) (N := 2) hx hb hts inX1 hown hK hP 0 rfl rfl 1 (by decide) (hts _ wm_76) (fun _ h9 => h9) rfl dX1_codeAt_6 ?_
  refine kt_icmp_ge (tgt := 18) hx hb dX1_codeAt_9 (by decide) (nI_toInt (by omega)) (nI_toInt (by omega)) (fun c9 => ?_) (fun c9 => ?_)
  · skip
    refine lv_iconst (v := nI 0) hx hb dX1_codeAt_18 (by decide) ?_
    refine lv_goto (tgt := 28) hx hb dX1_codeAt_19 (by decide) ?_
    exact ro_ri hx hb hr hlk dX1_codeAt_28 (by rw [cd_out (by omega)])
  · skip
    refine lv_iload_n hx hb dX1_codeAt_12 rfl (lv_at hl 1 rfl) ?_
    refine lv_bipush (v := nI 18) hx hb dX1_codeAt_13 (by decide) ?_
    refine kt_icmp_lt (tgt := 22) hx hb dX1_codeAt_15 (by decide) (nI_toInt (by omega)) (nI_toInt (by decide)) (fun c15 => ?_) (fun c15 => absurd c15 (by omega))
    refine lv_aload_n hx hb dX1_codeAt_22 rfl (lv_at hl 0 rfl) ?_
    refine va_get (ci := 1) (C := RX1) (T := TX1) (N := 2) hx hb hts inX1 hown hK hP 0 rfl rfl 0 (by decide) (hts _ wm_31) (fun _ h9 => h9) rfl dX1_codeAt_23 ?_
    refine lv_iload_n hx hb dX1_codeAt_26 rfl (lv_at hl 1 rfl) ?_
    refine kn_iald (v := nI (pg j)) hx hb hK hP 1 rfl (by omega) (by decide) rfl dX1_codeAt_27 ?_
    exact ro_ri hx hb hr hlk dX1_codeAt_28 (by rw [cd_in (by omega)])
set_option maxHeartbeats 4000000 in
set_option maxRecDepth 100000 in
theorem c_X1_codeAt_n (l : Launch) (D : va_G) (cy : Nat → ClassId) (ev : kz_V) (a b : Nat) (pg : Nat → Nat) (n : Nat) (hn : n ≤ 18) (hpg : ∀ i, i < n → 32 ≤ pg i ∧ pg i ≤ 126) (x : Int32) (hx0 : x.toInt < 0) : Met l yX1_codeAt (.code yX1_codeAt cX1_codeAt 2 (some .int) :: WB) { frames := 0, cells := 0, slots := 0, locals := 0 } (ro_Pc D cy ev [.ref a, .int x] [zO a 1 [.ref b, .int (nI n)], zI cy b 18 (fun i9 => nI (pg i9))]) (vp_Si (fun r => r = nI 0)) 0 0 (fun _ => False) := by
  refine Met.ofW (cc := cX1_codeAt) (maxL := 2) (ret := (some .int)) (by decide) rfl ?_
  intro p e s m args below meth c s₁ B hml hv
  obtain ⟨rfl, hP, hK, hE⟩ := hv
  have hx := B.exec
  have hb := B.bytes
  have hr := B.returns
  have hlk := B.notSynchronized
  have hts : ∀ w ∈ WB, w.before _ s = true := fun w h => atoms_spec B.pre w (List.mem_cons_of_mem _ h)
  have hown : s.vm.findClass RX1 = some m.cls := findClass_of_methodNamed B.named
  have hl := lv_entry ([.ref a, .int x]) (n := 2) (Nat.le_of_ble_eq_true rfl)
  rw [lg_entry_eq]
  generalize (lg_sl ([.ref a, .int x]) ++ List.replicate (2 - (lg_sl ([.ref a, .int x])).length) Slot.unset).toArray = ls at hl ⊢
  have hl : lv_has ls 2 [(0, .ref a), (1, .int x)] := hl
  refine lv_iload_n hx hb dX1_codeAt_0 rfl (lv_at hl 1 rfl) ?_
  refine kt_if_lt (tgt := 18) hx hb dX1_codeAt_1 (by decide) rfl (fun c1 => ?_) (fun c1 => absurd c1 (by omega))
  refine lv_iconst (v := nI 0) hx hb dX1_codeAt_18 (by decide) ?_
  refine lv_goto (tgt := 28) hx hb dX1_codeAt_19 (by decide) ?_
  exact ro_ri hx hb hr hlk dX1_codeAt_28 (rfl)
set_option maxHeartbeats 4000000 in
set_option maxRecDepth 100000 in
theorem c_X1_digitAt (l : Launch) (D : va_G) (cy : Nat → ClassId) (ev : kz_V) (a b : Nat) (pg : Nat → Nat) (n : Nat) (hn : n ≤ 18) (hpg : ∀ i, i < n → 32 ≤ pg i ∧ pg i ≤ 126) (j : Nat) (hj : j < 1000) : Met l yX1_digitAt (.code yX1_digitAt cX1_digitAt 2 (some .int) :: WB) { frames := 1, cells := 0, slots := 0, locals := 21 } (ro_Pc D cy ev [.ref a, .int (nI j)] [zO a 1 [.ref b, .int (nI n)], zI cy b 18 (fun i9 => nI (pg i9))]) (vp_Si (fun r => r = nI (cd pg n j) - nI 48)) 0 0 (fun _ => False) := by
  refine Met.ofW (cc := cX1_digitAt) (maxL := 2) (ret := (some .int)) (by decide) rfl ?_
  intro p e s m args below meth c s₁ B hml hv
  obtain ⟨rfl, hP, hK, hE⟩ := hv
  have hx := B.exec
  have hb := B.bytes
  have hr := B.returns
  have hlk := B.notSynchronized
  have hts : ∀ w ∈ WB, w.before _ s = true := fun w h => atoms_spec B.pre w (List.mem_cons_of_mem _ h)
  have hown : s.vm.findClass RX1 = some m.cls := findClass_of_methodNamed B.named
  have hl := lv_entry ([.ref a, .int (nI j)]) (n := 2) (Nat.le_of_ble_eq_true rfl)
  rw [lg_entry_eq]
  generalize (lg_sl ([.ref a, .int (nI j)]) ++ List.replicate (2 - (lg_sl ([.ref a, .int (nI j)])).length) Slot.unset).toArray = ls at hl ⊢
  have hl : lv_has ls 2 [(0, .ref a), (1, .int (nI j))] := hl
  refine lv_aload_n hx hb dX1_digitAt_0 rfl (lv_at hl 0 rfl) ?_
  refine lv_iload_n hx hb dX1_digitAt_1 rfl (lv_at hl 1 rfl) ?_
  refine ro_Vi (As := [.int (nI j)]) (rest := []) (v := nI (cd pg n j)) ⟨hx, hb, hml, hown, hts⟩ (c_X1_codeAt l D cy ev a b pg n hn hpg j (by omega)) (kz_cwV 1 hts wm_112 wm_109 wm_110 wm_111 wm_14 rfl rfl (by decide +kernel) ⟨Nat.le_of_ble_eq_true rfl, Nat.le_of_ble_eq_true rfl⟩) hK hE (hP.sub (ws' := [zO a 1 [.ref b, .int (nI n)], zI cy b 18 (fun i9 => nI (pg i9))]) [0, 1] rfl) (kz_recv 0 hK hP rfl rfl) rfl hl.1 rfl (Nat.le_of_ble_eq_true rfl) dX1_digitAt_2 ⟨Nat.le_of_ble_eq_true rfl, Nat.le_of_ble_eq_true rfl⟩ ?_
  have hcd5 : cd pg n j ≤ 126 := cd_le hpg _
  refine lv_bipush (v := nI 48) hx hb dX1_digitAt_5 (by decide) ?_
  refine lv_isub hx hb dX1_digitAt_7 ?_
  exact ro_ri hx hb hr hlk dX1_digitAt_8 (rfl)
set_option maxHeartbeats 4000000 in
set_option maxRecDepth 100000 in
theorem c_X1_isDigit (l : Launch) (D : va_G) (cy : Nat → ClassId) (ev : kz_V) (a b : Nat) (pg : Nat → Nat) (n : Nat) (hn : n ≤ 18) (hpg : ∀ i, i < n → 32 ≤ pg i ∧ pg i ≤ 126) (j w : Nat) (hj : j < 1000) (hw : w ≤ 9) : Met l yX1_isDigit (.code yX1_isDigit cX1_isDigit 4 (some .boolean) :: WB) { frames := 2, cells := 0, slots := 0, locals := 42 } (ro_Pc D cy ev [.ref a, .int (nI j), .int (nI w)] [zO a 1 [.ref b, .int (nI n)], zI cy b 18 (fun i9 => nI (pg i9))]) (vp_Si (fun r => r = bI (dgt (cd pg n j) w))) 0 0 (fun _ => False) := by
  refine Met.ofW (cc := cX1_isDigit) (maxL := 4) (ret := (some .boolean)) (by decide) rfl ?_
  intro p e s m args below meth c s₁ B hml hv
  obtain ⟨rfl, hP, hK, hE⟩ := hv
  have hx := B.exec
  have hb := B.bytes
  have hr := B.returns
  have hlk := B.notSynchronized
  have hts : ∀ w ∈ WB, w.before _ s = true := fun w h => atoms_spec B.pre w (List.mem_cons_of_mem _ h)
  have hown : s.vm.findClass RX1 = some m.cls := findClass_of_methodNamed B.named
  have hl := lv_entry ([.ref a, .int (nI j), .int (nI w)]) (n := 4) (Nat.le_of_ble_eq_true rfl)
  rw [lg_entry_eq]
  generalize (lg_sl ([.ref a, .int (nI j), .int (nI w)]) ++ List.replicate (4 - (lg_sl ([.ref a, .int (nI j), .int (nI w)])).length) Slot.unset).toArray = ls at hl ⊢
  have hl : lv_has ls 4 [(0, .ref a), (1, .int (nI j)), (2, .int (nI w))] := hl
  refine lv_aload_n hx hb dX1_isDigit_0 rfl (lv_at hl 0 rfl) ?_
  refine lv_iload_n hx hb dX1_isDigit_1 rfl (lv_at hl 1 rfl) ?_
  refine ro_Vi (As := [.int (nI j)]) (rest := []) (v := nI (cd pg n j) - nI 48) ⟨hx, hb, hml, hown, hts⟩ (c_X1_digitAt l D cy ev a b pg n hn hpg j (by omega)) (kz_cwV 1 hts wm_209 wm_206 wm_207 wm_208 wm_14 rfl rfl (by decide +kernel) ⟨Nat.le_of_ble_eq_true rfl, Nat.le_of_ble_eq_true rfl⟩) hK hE (hP.sub (ws' := [zO a 1 [.ref b, .int (nI n)], zI cy b 18 (fun i9 => nI (pg i9))]) [0, 1] rfl) (kz_recv 0 hK hP rfl rfl) rfl hl.1 rfl (Nat.le_of_ble_eq_true rfl) dX1_isDigit_2 ⟨Nat.le_of_ble_eq_true rfl, Nat.le_of_ble_eq_true rfl⟩ ?_
  have hcd5 : cd pg n j ≤ 126 := cd_le hpg _
  refine lv_istore_n (lv' := [(3, .int (nI (cd pg n j) - nI 48)), (0, .ref a), (1, .int (nI j)), (2, .int (nI w))]) hx hb dX1_isDigit_5 rfl hl (by decide) rfl (fun ls hl => ?_)
  refine lv_iload_n hx hb dX1_isDigit_6 rfl (lv_at hl 0 rfl) ?_
  refine lv_iload_n hx hb dX1_isDigit_7 rfl (lv_at hl 3 rfl) ?_
  refine kt_icmp_lt (tgt := 21) hx hb dX1_isDigit_8 (by decide) (pk_sub_toInt (by omega) (by decide)) (nI_toInt (by omega)) (fun c8 => ?_) (fun c8 => ?_)
  · skip
    refine lv_iconst (v := nI 0) hx hb dX1_isDigit_21 (by decide) ?_
    exact ro_rz hx hb hr hlk dX1_isDigit_22 rfl ((congrArg bI (show dgt (cd pg n j) w = false from decide_eq_false (by omega))).symm)
  · skip
    refine lv_iload_n hx hb dX1_isDigit_11 rfl (lv_at hl 0 rfl) ?_
    refine lv_bipush (v := nI 9) hx hb dX1_isDigit_12 (by decide) ?_
    refine kt_icmp_gt (tgt := 21) hx hb dX1_isDigit_14 (by decide) (pk_sub_toInt (by omega) (by decide)) (nI_toInt (by decide)) (fun c14 => ?_) (fun c14 => ?_)
    · skip
      refine lv_iconst (v := nI 0) hx hb dX1_isDigit_21 (by decide) ?_
      exact ro_rz hx hb hr hlk dX1_isDigit_22 rfl ((congrArg bI (show dgt (cd pg n j) w = false from decide_eq_false (by omega))).symm)
    · skip
      refine lv_iconst (v := nI 1) hx hb dX1_isDigit_17 (by decide) ?_
      refine lv_goto (tgt := 22) hx hb dX1_isDigit_18 (by decide) ?_
      exact ro_rz hx hb hr hlk dX1_isDigit_22 rfl ((congrArg bI (show dgt (cd pg n j) w = true from decide_eq_true (by omega))).symm)
set_option maxHeartbeats 4000000 in
set_option maxRecDepth 100000 in
theorem c_X1_kindAt (l : Launch) (D : va_G) (cy : Nat → ClassId) (ev : kz_V) (a b : Nat) (pg : Nat → Nat) (n : Nat) (hn : n ≤ 18) (hpg : ∀ i, i < n → 32 ≤ pg i ∧ pg i ≤ 126) (j : Nat) (hj : j < 1000) : Met l yX1_kindAt (.code yX1_kindAt cX1_kindAt 2 (some .int) :: WB) { frames := 4, cells := 0, slots := 0, locals := 91 } (ro_Pc D cy ev [.ref a, .int (nI j)] [zO a 1 [.ref b, .int (nI n)], zI cy b 18 (fun i9 => nI (pg i9))]) (vp_Si (fun r => r = kI (cd pg n j))) 0 0 (fun _ => False) := by
  refine Met.ofW (cc := cX1_kindAt) (maxL := 2) (ret := (some .int)) (by decide) rfl ?_
  intro p e s m args below meth c s₁ B hml hv
  obtain ⟨rfl, hP, hK, hE⟩ := hv
  have hx := B.exec
  have hb := B.bytes
  have hr := B.returns
  have hlk := B.notSynchronized
  have hts : ∀ w ∈ WB, w.before _ s = true := fun w h => atoms_spec B.pre w (List.mem_cons_of_mem _ h)
  have hown : s.vm.findClass RX1 = some m.cls := findClass_of_methodNamed B.named
  have hl := lv_entry ([.ref a, .int (nI j)]) (n := 2) (Nat.le_of_ble_eq_true rfl)
  rw [lg_entry_eq]
  generalize (lg_sl ([.ref a, .int (nI j)]) ++ List.replicate (2 - (lg_sl ([.ref a, .int (nI j)])).length) Slot.unset).toArray = ls at hl ⊢
  have hl : lv_has ls 2 [(0, .ref a), (1, .int (nI j))] := hl
  refine va_ldcS hx hb hown hE.2.1 dX1_kindAt_0 ?_
  refine lv_aload_n hx hb dX1_kindAt_2 rfl (lv_at hl 0 rfl) ?_
  refine lv_iload_n hx hb dX1_kindAt_3 rfl (lv_at hl 1 rfl) ?_
  refine ro_Vi (As := [.int (nI j)]) (rest := [.ref ev.2.1]) (v := nI (cd pg n j)) ⟨hx, hb, hml, hown, hts⟩ (c_X1_codeAt l D cy ev a b pg n hn hpg j (by omega)) (kz_cwV 1 hts wm_112 wm_109 wm_110 wm_111 wm_14 rfl rfl (by decide +kernel) ⟨Nat.le_of_ble_eq_true rfl, Nat.le_of_ble_eq_true rfl⟩) hK hE (hP.sub (ws' := [zO a 1 [.ref b, .int (nI n)], zI cy b 18 (fun i9 => nI (pg i9))]) [0, 1] rfl) (kz_recv 0 hK hP rfl rfl) rfl hl.1 rfl (Nat.le_of_ble_eq_true rfl) dX1_kindAt_4 ⟨Nat.le_of_ble_eq_true rfl, Nat.le_of_ble_eq_true rfl⟩ ?_
  have hcd7 : cd pg n j ≤ 126 := cd_le hpg _
  refine lv_i2c (v := nI (cd pg n j)) hx hb dX1_kindAt_7 (b128 (cd pg n j) (by omega)).2 ?_
  refine ro_Vi (As := [.int (nI (cd pg n j))]) (rest := []) (v := kI (cd pg n j)) ⟨hx, hb, hml, hown, hts⟩ (c_J0_indexOf_0f7a4 l D cy ev (cd pg n j) (by omega)) (kz_cwV 1 hts wm_117 wm_113 wm_114 wm_115 wm_116 rfl rfl (by decide +kernel) ⟨Nat.le_of_ble_eq_true rfl, Nat.le_of_ble_eq_true rfl⟩) hK hE (fun k q h => by simp at h) (vk_recv (i := 0) hE.2.2.1 (by decide) va_S.rf) rfl hl.1 rfl (Nat.le_of_ble_eq_true rfl) dX1_kindAt_8 ⟨Nat.le_of_ble_eq_true rfl, Nat.le_of_ble_eq_true rfl⟩ ?_
  exact ro_ri hx hb hr hlk dX1_kindAt_11 (rfl)
set_option maxHeartbeats 4000000 in
set_option maxRecDepth 100000 in
theorem c_X1_fitsBehind (l : Launch) (D : va_G) (cy : Nat → ClassId) (ev : kz_V) (a b : Nat) (pg : Nat → Nat) (n : Nat) (hn : n ≤ 18) (hpg : ∀ i, i < n → 32 ≤ pg i ∧ pg i ≤ 126) (j ac : Nat) (hj : j < 1000) (hac : ac < 1000) : Met l yX1_fitsBehind (.code yX1_fitsBehind cX1_fitsBehind 4 (some .boolean) :: WB) { frames := 1, cells := 0, slots := 0, locals := 21 } (ro_Pc D cy ev [.ref a, .int (nI j), .int (nI ac)] [zO a 1 [.ref b, .int (nI n)], zI cy b 18 (fun i9 => nI (pg i9))]) (vp_Si (fun r => r = bI (bh (cd pg n j) ac))) 0 0 (fun _ => False) := by
  refine Met.ofW (cc := cX1_fitsBehind) (maxL := 4) (ret := (some .boolean)) (by decide) rfl ?_
  intro p e s m args below meth c s₁ B hml hv
  obtain ⟨rfl, hP, hK, hE⟩ := hv
  have hx := B.exec
  have hb := B.bytes
  have hr := B.returns
  have hlk := B.notSynchronized
  have hts : ∀ w ∈ WB, w.before _ s = true := fun w h => atoms_spec B.pre w (List.mem_cons_of_mem _ h)
  have hown : s.vm.findClass RX1 = some m.cls := findClass_of_methodNamed B.named
  have hl := lv_entry ([.ref a, .int (nI j), .int (nI ac)]) (n := 4) (Nat.le_of_ble_eq_true rfl)
  rw [lg_entry_eq]
  generalize (lg_sl ([.ref a, .int (nI j), .int (nI ac)]) ++ List.replicate (4 - (lg_sl ([.ref a, .int (nI j), .int (nI ac)])).length) Slot.unset).toArray = ls at hl ⊢
  have hl : lv_has ls 4 [(0, .ref a), (1, .int (nI j)), (2, .int (nI ac))] := hl
  refine lv_aload_n hx hb dX1_fitsBehind_0 rfl (lv_at hl 0 rfl) ?_
  refine lv_iload_n hx hb dX1_fitsBehind_1 rfl (lv_at hl 1 rfl) ?_
  refine ro_Vi (As := [.int (nI j)]) (rest := []) (v := nI (cd pg n j)) ⟨hx, hb, hml, hown, hts⟩ (c_X1_codeAt l D cy ev a b pg n hn hpg j (by omega)) (kz_cwV 1 hts wm_112 wm_109 wm_110 wm_111 wm_14 rfl rfl (by decide +kernel) ⟨Nat.le_of_ble_eq_true rfl, Nat.le_of_ble_eq_true rfl⟩) hK hE (hP.sub (ws' := [zO a 1 [.ref b, .int (nI n)], zI cy b 18 (fun i9 => nI (pg i9))]) [0, 1] rfl) (kz_recv 0 hK hP rfl rfl) rfl hl.1 rfl (Nat.le_of_ble_eq_true rfl) dX1_fitsBehind_2 ⟨Nat.le_of_ble_eq_true rfl, Nat.le_of_ble_eq_true rfl⟩ ?_
  have hcd5 : cd pg n j ≤ 126 := cd_le hpg _
  refine lv_istore_n (lv' := [(3, .int (nI (cd pg n j))), (0, .ref a), (1, .int (nI j)), (2, .int (nI ac))]) hx hb dX1_fitsBehind_5 rfl hl (by decide) rfl (fun ls hl => ?_)
  refine lv_iload_n hx hb dX1_fitsBehind_6 rfl (lv_at hl 0 rfl) ?_
  refine lv_bipush (v := nI 44) hx hb dX1_fitsBehind_7 (by decide) ?_
  refine kt_icmp_ne (tgt := 17) hx hb dX1_fitsBehind_9 (by decide) (nI_toInt (by omega)) (nI_toInt (by decide)) (fun c9 => ?_) (fun c9 => ?_)
  · skip
    refine lv_iload_n hx hb dX1_fitsBehind_17 rfl (lv_at hl 0 rfl) ?_
    refine lv_bipush (v := nI 59) hx hb dX1_fitsBehind_18 (by decide) ?_
    refine kt_icmp_ne (tgt := 32) hx hb dX1_fitsBehind_20 (by decide) (nI_toInt (by omega)) (nI_toInt (by decide)) (fun c20 => ?_) (fun c20 => ?_)
    · skip
      refine lv_iconst (v := nI 0) hx hb dX1_fitsBehind_32 (by decide) ?_
      exact ro_rz hx hb hr hlk dX1_fitsBehind_33 rfl ((congrArg bI (show bh (cd pg n j) ac = false from by unfold bh; simp; omega)).symm)
    · skip
      refine lv_iload_n hx hb dX1_fitsBehind_23 rfl (lv_at hl 3 rfl) ?_
      refine lv_iconst (v := nI 2) hx hb dX1_fitsBehind_24 (by decide) ?_
      refine kt_icmp_lt (tgt := 32) hx hb dX1_fitsBehind_25 (by decide) (nI_toInt (by omega)) (nI_toInt (by decide)) (fun c25 => ?_) (fun c25 => ?_)
      · skip
        refine lv_iconst (v := nI 0) hx hb dX1_fitsBehind_32 (by decide) ?_
        exact ro_rz hx hb hr hlk dX1_fitsBehind_33 rfl ((congrArg bI (show bh (cd pg n j) ac = false from by unfold bh; simp; omega)).symm)
      · skip
        refine lv_iconst (v := nI 1) hx hb dX1_fitsBehind_28 (by decide) ?_
        refine lv_goto (tgt := 33) hx hb dX1_fitsBehind_29 (by decide) ?_
        exact ro_rz hx hb hr hlk dX1_fitsBehind_33 rfl ((congrArg bI (show bh (cd pg n j) ac = true from by unfold bh; simp; omega)).symm)
  · skip
    refine lv_iload_n hx hb dX1_fitsBehind_12 rfl (lv_at hl 3 rfl) ?_
    refine lv_iconst (v := nI 4) hx hb dX1_fitsBehind_13 (by decide) ?_
    refine kt_icmp_lt (tgt := 28) hx hb dX1_fitsBehind_14 (by decide) (nI_toInt (by omega)) (nI_toInt (by decide)) (fun c14 => ?_) (fun c14 => ?_)
    · skip
      refine lv_iconst (v := nI 1) hx hb dX1_fitsBehind_28 (by decide) ?_
      refine lv_goto (tgt := 33) hx hb dX1_fitsBehind_29 (by decide) ?_
      exact ro_rz hx hb hr hlk dX1_fitsBehind_33 rfl ((congrArg bI (show bh (cd pg n j) ac = true from by unfold bh; simp; omega)).symm)
    · skip
      refine lv_iload_n hx hb dX1_fitsBehind_17 rfl (lv_at hl 0 rfl) ?_
      refine lv_bipush (v := nI 59) hx hb dX1_fitsBehind_18 (by decide) ?_
      refine kt_icmp_ne (tgt := 32) hx hb dX1_fitsBehind_20 (by decide) (nI_toInt (by omega)) (nI_toInt (by decide)) (fun c20 => ?_) (fun c20 => ?_)
      · skip
        refine lv_iconst (v := nI 0) hx hb dX1_fitsBehind_32 (by decide) ?_
        exact ro_rz hx hb hr hlk dX1_fitsBehind_33 rfl ((congrArg bI (show bh (cd pg n j) ac = false from by unfold bh; simp; omega)).symm)
      · skip
        refine lv_iload_n hx hb dX1_fitsBehind_23 rfl (lv_at hl 3 rfl) ?_
        refine lv_iconst (v := nI 2) hx hb dX1_fitsBehind_24 (by decide) ?_
        refine kt_icmp_lt (tgt := 32) hx hb dX1_fitsBehind_25 (by decide) (nI_toInt (by omega)) (nI_toInt (by decide)) (fun c25 => ?_) (fun c25 => ?_)
        · skip
          refine lv_iconst (v := nI 0) hx hb dX1_fitsBehind_32 (by decide) ?_
          exact ro_rz hx hb hr hlk dX1_fitsBehind_33 rfl ((congrArg bI (show bh (cd pg n j) ac = false from by unfold bh; simp; omega)).symm)
        · skip
          refine lv_iconst (v := nI 1) hx hb dX1_fitsBehind_28 (by decide) ?_
          refine lv_goto (tgt := 33) hx hb dX1_fitsBehind_29 (by decide) ?_
          exact ro_rz hx hb hr hlk dX1_fitsBehind_33 rfl ((congrArg bI (show bh (cd pg n j) ac = true from by unfold bh; simp; omega)).symm)
set_option maxHeartbeats 4000000 in
set_option maxRecDepth 100000 in
theorem c_X1_fitsAccused (l : Launch) (D : va_G) (cy : Nat → ClassId) (ev : kz_V) (a b : Nat) (pg : Nat → Nat) (n : Nat) (hn : n ≤ 18) (hpg : ∀ i, i < n → 32 ≤ pg i ∧ pg i ≤ 126) (j : Nat) (hj : j < 1000) : Met l yX1_fitsAccused (.code yX1_fitsAccused cX1_fitsAccused 2 (some .boolean) :: WB) { frames := 5, cells := 0, slots := 0, locals := 112 } (ro_Pc D cy ev [.ref a, .int (nI j)] [zO a 1 [.ref b, .int (nI n)], zI cy b 18 (fun i9 => nI (pg i9))]) (vp_Si (fun r => r = bI (ftA pg n j))) 0 0 (fun _ => False) := by
  refine Met.ofW (cc := cX1_fitsAccused) (maxL := 2) (ret := (some .boolean)) (by decide) rfl ?_
  intro p e s m args below meth c s₁ B hml hv
  obtain ⟨rfl, hP, hK, hE⟩ := hv
  have hx := B.exec
  have hb := B.bytes
  have hr := B.returns
  have hlk := B.notSynchronized
  have hts : ∀ w ∈ WB, w.before _ s = true := fun w h => atoms_spec B.pre w (List.mem_cons_of_mem _ h)
  have hown : s.vm.findClass RX1 = some m.cls := findClass_of_methodNamed B.named
  have hl := lv_entry ([.ref a, .int (nI j)]) (n := 2) (Nat.le_of_ble_eq_true rfl)
  rw [lg_entry_eq]
  generalize (lg_sl ([.ref a, .int (nI j)]) ++ List.replicate (2 - (lg_sl ([.ref a, .int (nI j)])).length) Slot.unset).toArray = ls at hl ⊢
  have hl : lv_has ls 2 [(0, .ref a), (1, .int (nI j))] := hl
  refine lv_iload_n hx hb dX1_fitsAccused_0 rfl (lv_at hl 1 rfl) ?_
  refine lv_iconst (v := nI 4) hx hb dX1_fitsAccused_1 (by decide) ?_
  refine kn_irem hx hb dX1_fitsAccused_2 (by omega) (by omega) (by omega) ?_
  obtain ⟨r4, hr4⟩ : ∃ r4, r4 = j % 4 := ⟨_, rfl⟩
  have hr5 : r4 < 4 := by omega
  refine kn_as (st' := [.int (nI r4)]) (by rw [hr4]) ?_
  rcases (show r4 = 0 ∨ r4 = 1 ∨ r4 = 2 ∨ r4 = 3 by omega) with rfl | rfl | rfl | rfl
  · skip
    refine lv_tableIn (tgt := 28) (off := 25) hx hb dX1_fitsAccused_3 (by decide) (by decide) rfl (by decide) ?_
    refine lv_aload_n hx hb dX1_fitsAccused_28 rfl (lv_at hl 0 rfl) ?_
    refine lv_iload_n hx hb dX1_fitsAccused_29 rfl (lv_at hl 1 rfl) ?_
    refine ro_Vi (As := [.int (nI j)]) (rest := []) (v := kI (cd pg n j)) ⟨hx, hb, hml, hown, hts⟩ (c_X1_kindAt l D cy ev a b pg n hn hpg j (by omega)) (kz_cwV 1 hts wm_108 wm_105 wm_106 wm_107 wm_14 rfl rfl (by decide +kernel) ⟨Nat.le_of_ble_eq_true rfl, Nat.le_of_ble_eq_true rfl⟩) hK hE (hP.sub (ws' := [zO a 1 [.ref b, .int (nI n)], zI cy b 18 (fun i9 => nI (pg i9))]) [0, 1] rfl) (kz_recv 0 hK hP rfl rfl) rfl hl.1 rfl (Nat.le_of_ble_eq_true rfl) dX1_fitsAccused_30 ⟨Nat.le_of_ble_eq_true rfl, Nat.le_of_ble_eq_true rfl⟩ ?_
    refine kt_if_lt (tgt := 40) hx hb dX1_fitsAccused_33 (by decide) (kI_int _) (fun c33 => ?_) (fun c33 => ?_)
    · skip
      refine lv_iconst (v := nI 0) hx hb dX1_fitsAccused_40 (by decide) ?_
      exact ro_rz hx hb hr hlk dX1_fitsAccused_41 rfl (by unfold ftA; rw [if_pos (by omega)]; rw [kZ_t c33]; rfl)
    · skip
      refine lv_iconst (v := nI 1) hx hb dX1_fitsAccused_36 (by decide) ?_
      refine lv_goto (tgt := 41) hx hb dX1_fitsAccused_37 (by decide) ?_
      exact ro_rz hx hb hr hlk dX1_fitsAccused_41 rfl (by unfold ftA; rw [if_pos (by omega)]; rw [kZ_f c33]; rfl)
  · skip
    refine lv_tableIn (tgt := 42) (off := 39) hx hb dX1_fitsAccused_3 (by decide) (by decide) rfl (by decide) ?_
    refine lv_aload_n hx hb dX1_fitsAccused_42 rfl (lv_at hl 0 rfl) ?_
    refine lv_iload_n hx hb dX1_fitsAccused_43 rfl (lv_at hl 1 rfl) ?_
    refine lv_iconst (v := nI 0) hx hb dX1_fitsAccused_44 (by decide) ?_
    refine ro_Vi (As := [.int (nI j), .int (nI 0)]) (rest := []) (v := bI (dgt (cd pg n j) 0)) ⟨hx, hb, hml, hown, hts⟩ (c_X1_isDigit l D cy ev a b pg n hn hpg j 0 (by omega) (by omega)) (kz_cwV 2 hts wm_205 wm_202 wm_203 wm_204 wm_14 rfl rfl (by decide +kernel) ⟨Nat.le_of_ble_eq_true rfl, Nat.le_of_ble_eq_true rfl⟩) hK hE (hP.sub (ws' := [zO a 1 [.ref b, .int (nI n)], zI cy b 18 (fun i9 => nI (pg i9))]) [0, 1] rfl) (kz_recv 0 hK hP rfl rfl) rfl hl.1 rfl (Nat.le_of_ble_eq_true rfl) dX1_fitsAccused_45 ⟨Nat.le_of_ble_eq_true rfl, Nat.le_of_ble_eq_true rfl⟩ ?_
    exact ro_rz hx hb hr hlk dX1_fitsAccused_48 (bI_nar (dgt (cd pg n j) 0)) (by unfold ftA; rw [if_neg (by omega), if_pos (by omega)])
  · skip
    refine lv_tableIn (tgt := 49) (off := 46) hx hb dX1_fitsAccused_3 (by decide) (by decide) rfl (by decide) ?_
    refine lv_aload_n hx hb dX1_fitsAccused_49 rfl (lv_at hl 0 rfl) ?_
    refine lv_iload_n hx hb dX1_fitsAccused_50 rfl (lv_at hl 1 rfl) ?_
    refine lv_iconst (v := nI 1) hx hb dX1_fitsAccused_51 (by decide) ?_
    refine ro_Vi (As := [.int (nI j), .int (nI 1)]) (rest := []) (v := bI (dgt (cd pg n j) 1)) ⟨hx, hb, hml, hown, hts⟩ (c_X1_isDigit l D cy ev a b pg n hn hpg j 1 (by omega) (by omega)) (kz_cwV 2 hts wm_205 wm_202 wm_203 wm_204 wm_14 rfl rfl (by decide +kernel) ⟨Nat.le_of_ble_eq_true rfl, Nat.le_of_ble_eq_true rfl⟩) hK hE (hP.sub (ws' := [zO a 1 [.ref b, .int (nI n)], zI cy b 18 (fun i9 => nI (pg i9))]) [0, 1] rfl) (kz_recv 0 hK hP rfl rfl) rfl hl.1 rfl (Nat.le_of_ble_eq_true rfl) dX1_fitsAccused_52 ⟨Nat.le_of_ble_eq_true rfl, Nat.le_of_ble_eq_true rfl⟩ ?_
    exact ro_rz hx hb hr hlk dX1_fitsAccused_55 (bI_nar (dgt (cd pg n j) 1)) (by unfold ftA; rw [if_neg (by omega), if_neg (by omega), if_pos (by omega)])
  · skip
    refine lv_tableOut (tgt := 56) hx hb dX1_fitsAccused_3 (by decide) (by decide) ?_
    refine lv_aload_n hx hb dX1_fitsAccused_56 rfl (lv_at hl 0 rfl) ?_
    refine lv_iload_n hx hb dX1_fitsAccused_57 rfl (lv_at hl 1 rfl) ?_
    refine lv_iload_n hx hb dX1_fitsAccused_58 rfl (lv_at hl 1 rfl) ?_
    refine lv_iconst (v := nI 4) hx hb dX1_fitsAccused_59 (by decide) ?_
    refine kn_idiv hx hb dX1_fitsAccused_60 (by omega) (by omega) (by omega) ?_
    refine lv_iconst (v := nI 1) hx hb dX1_fitsAccused_61 (by decide) ?_
    refine kn_iadd hx hb dX1_fitsAccused_62 ?_
    refine ro_Vi (As := [.int (nI j), .int (nI ((j / 4) + 1))]) (rest := []) (v := bI (bh (cd pg n j) ((j / 4) + 1))) ⟨hx, hb, hml, hown, hts⟩ (c_X1_fitsBehind l D cy ev a b pg n hn hpg j ((j / 4) + 1) (by omega) (by omega)) (kz_cwV 2 hts wm_213 wm_210 wm_211 wm_212 wm_14 rfl rfl (by decide +kernel) ⟨Nat.le_of_ble_eq_true rfl, Nat.le_of_ble_eq_true rfl⟩) hK hE (hP.sub (ws' := [zO a 1 [.ref b, .int (nI n)], zI cy b 18 (fun i9 => nI (pg i9))]) [0, 1] rfl) (kz_recv 0 hK hP rfl rfl) rfl hl.1 rfl (Nat.le_of_ble_eq_true rfl) dX1_fitsAccused_63 ⟨Nat.le_of_ble_eq_true rfl, Nat.le_of_ble_eq_true rfl⟩ ?_
    exact ro_rz hx hb hr hlk dX1_fitsAccused_66 (bI_nar (bh (cd pg n j) ((j / 4) + 1))) (by unfold ftA; rw [if_neg (by omega), if_neg (by omega), if_neg (by omega)])
set_option maxHeartbeats 4000000 in
set_option maxRecDepth 100000 in
theorem c_X1_firstFault (l : Launch) (D : va_G) (cy : Nat → ClassId) (ev : kz_V) (a b : Nat) (pg : Nat → Nat) (n : Nat) (hn : n ≤ 18) (hpg : ∀ i, i < n → 32 ≤ pg i ∧ pg i ≤ 126) : Met l yX1_firstFault (.code yX1_firstFault cX1_firstFault 4 (some .int) :: WB) { frames := 6, cells := 0, slots := 0, locals := 133 } (ro_Pc D cy ev [.ref a] [zO a 1 [.ref b, .int (nI n)], zI cy b 18 (fun i9 => nI (pg i9))]) (vp_Si (fun r => r = nI (flt pg n))) 0 0 (fun _ => False) := by
  refine Met.ofW (cc := cX1_firstFault) (maxL := 4) (ret := (some .int)) (by decide) rfl ?_
  intro p e s m args below meth c s₁ B hml hv
  obtain ⟨rfl, hP, hK, hE⟩ := hv
  have hx := B.exec
  have hb := B.bytes
  have hr := B.returns
  have hlk := B.notSynchronized
  have hts : ∀ w ∈ WB, w.before _ s = true := fun w h => atoms_spec B.pre w (List.mem_cons_of_mem _ h)
  have hown : s.vm.findClass RX1 = some m.cls := findClass_of_methodNamed B.named
  have hl := lv_entry ([.ref a]) (n := 4) (Nat.le_of_ble_eq_true rfl)
  rw [lg_entry_eq]
  generalize (lg_sl ([.ref a]) ++ List.replicate (4 - (lg_sl ([.ref a])).length) Slot.unset).toArray = ls at hl ⊢
  have hl : lv_has ls 4 [(0, .ref a)] := hl
  refine lv_iconst (v := (-1)) hx hb dX1_firstFault_0 (by decide) ?_
  refine lv_istore_n (lv' := [(1, .int ((-1))), (0, .ref a)]) hx hb dX1_firstFault_1 rfl hl (by decide) rfl (fun ls hl => ?_)
  refine lv_iconst (v := nI 0) hx hb dX1_firstFault_2 (by decide) ?_
  refine lv_istore_n (lv' := [(2, .int (nI 0)), (1, .int ((-1))), (0, .ref a)]) hx hb dX1_firstFault_3 rfl hl (by decide) rfl (fun ls hl => ?_)
  refine kn_loopR (α := Unit) (n) (fun i _ ls => (i ≤ n) ∧ (flt pg n = fst (fit pg n) (n - i) i) ∧ lv_has ls 4 [(0, .ref a), (1, .int (eI (fE pg n i))), (2, .int (nI i))]) (0) (()) ⟨(Nat.zero_le _), rfl, lv_sub hl [2, 1, 0] rfl⟩ (fun i _ ls hI ih4 => ?_)
  obtain ⟨hi, hq, hl⟩ := hI
  refine lv_iload_n hx hb dX1_firstFault_4 rfl (lv_at hl 2 rfl) ?_
  refine lv_aload_n hx hb dX1_firstFault_5 rfl (lv_at hl 0 rfl) ?_
  refine va_get (ci := 1) (C := RX1) (T := TX1) (N := 2) hx hb hts inX1 hown hK hP 0 rfl rfl 1 (by decide) (hts _ wm_76) (fun _ h9 => h9) rfl dX1_firstFault_6 ?_
  refine kt_icmp_ge (tgt := 71) hx hb dX1_firstFault_9 (by decide) (nI_toInt (by omega)) (nI_toInt (by omega)) (fun c9 => ?_) (fun c9 => ?_)
  · skip
    refine lv_aload_n hx hb dX1_firstFault_71 rfl (lv_at hl 0 rfl) ?_
    refine va_get (ci := 1) (C := RX1) (T := TX1) (N := 2) hx hb hts inX1 hown hK hP 0 rfl rfl 1 (by decide) (hts _ wm_76) (fun _ h9 => h9) rfl dX1_firstFault_72 ?_
    exact ro_ri hx hb hr hlk dX1_firstFault_75 (by rw [hq, show i = n by omega, Nat.sub_self]; rfl)
  · skip
    rcases hfe : fE pg n i with _ | e9
    · skip
      rw [hfe] at hl
      have hl : lv_has ls 4 [(0, .ref a), (1, .int ((-1))), (2, .int (nI i))] := hl
      refine lv_iload_n hx hb dX1_firstFault_12 rfl (lv_at hl 1 rfl) ?_
      refine lv_iconst (v := (-1)) hx hb dX1_firstFault_13 (by decide) ?_
      refine kt_icmp_ne (tgt := 25) hx hb dX1_firstFault_14 (by decide) (rfl : _ = (-1 : Int)) (rfl : _ = (-1 : Int)) (fun c14 => absurd c14 (by omega)) (fun c14 => ?_)
      refine lv_aload_n hx hb dX1_firstFault_17 rfl (lv_at hl 0 rfl) ?_
      refine lv_iload_n hx hb dX1_firstFault_18 rfl (lv_at hl 2 rfl) ?_
      refine ro_Vi (As := [.int (nI i)]) (rest := []) (v := bI (ftA pg n i)) ⟨hx, hb, hml, hown, hts⟩ (c_X1_fitsAccused l D cy ev a b pg n hn hpg i (by omega)) (kz_cwV 1 hts wm_104 wm_101 wm_102 wm_103 wm_14 rfl rfl (by decide +kernel) ⟨Nat.le_of_ble_eq_true rfl, Nat.le_of_ble_eq_true rfl⟩) hK hE (hP.sub (ws' := [zO a 1 [.ref b, .int (nI n)], zI cy b 18 (fun i9 => nI (pg i9))]) [0, 1] rfl) (kz_recv 0 hK hP rfl rfl) rfl hl.1 rfl (Nat.le_of_ble_eq_true rfl) dX1_firstFault_19 ⟨Nat.le_of_ble_eq_true rfl, Nat.le_of_ble_eq_true rfl⟩ ?_
      refine lv_goto (tgt := 46) hx hb dX1_firstFault_22 (by decide) ?_
      refine lv_istore_n (lv' := [(3, .int (bI (ftA pg n i))), (0, .ref a), (1, .int ((-1))), (2, .int (nI i))]) hx hb dX1_firstFault_46 rfl hl (by decide) rfl (fun ls hl => ?_)
      refine lv_iload_n hx hb dX1_firstFault_47 rfl (lv_at hl 0 rfl) ?_
      refine kt_ifB_ne (tgt := 53) hx hb dX1_firstFault_48 (by decide) (fun c48 => ?_) (fun c48 => ?_)
      · skip
        refine lv_aload_n hx hb dX1_firstFault_53 rfl (lv_at hl 1 rfl) ?_
        refine lv_iload_n hx hb dX1_firstFault_54 rfl (lv_at hl 3 rfl) ?_
        refine ro_Vi (As := [.int (nI i)]) (rest := []) (v := nI (cd pg n i)) ⟨hx, hb, hml, hown, hts⟩ (c_X1_codeAt l D cy ev a b pg n hn hpg i (by omega)) (kz_cwV 1 hts wm_112 wm_109 wm_110 wm_111 wm_14 rfl rfl (by decide +kernel) ⟨Nat.le_of_ble_eq_true rfl, Nat.le_of_ble_eq_true rfl⟩) hK hE (hP.sub (ws' := [zO a 1 [.ref b, .int (nI n)], zI cy b 18 (fun i9 => nI (pg i9))]) [0, 1] rfl) (kz_recv 0 hK hP rfl rfl) rfl hl.1 rfl (Nat.le_of_ble_eq_true rfl) dX1_firstFault_55 ⟨Nat.le_of_ble_eq_true rfl, Nat.le_of_ble_eq_true rfl⟩ ?_
        have hcd58 : cd pg n i ≤ 126 := cd_le hpg _
        refine lv_bipush (v := nI 59) hx hb dX1_firstFault_58 (by decide) ?_
        refine kt_icmp_ne (tgt := 65) hx hb dX1_firstFault_60 (by decide) (nI_toInt (by omega)) (nI_toInt (by decide)) (fun c60 => ?_) (fun c60 => ?_)
        · skip
          refine kn_iinc (k := 3) (x := i) (d := 1) (lv' := [(2, .int (nI (i + 1))), (3, .int (bI (ftA pg n i))), (0, .ref a), (1, .int ((-1)))]) hx hb dX1_firstFault_65 hl rfl (by decide) rfl (fun ls hl => ?_)
          refine lv_goto (tgt := 4) hx hb dX1_firstFault_68 (by decide) ?_
          have hl : lv_has ls 4 [(2, .int (nI (i + 1))), (3, .int (bI (ftA pg n i))), (0, .ref a), (1, .int (eI (fE pg n (i + 1))))] := by
            have e9 : (-1) = eI (fE pg n (i + 1)) := by rw [fE, if_neg (by omega), hfe]; rfl
            rw [← e9]
            exact hl
          exact ih4 (()) _ (by omega) ⟨(by omega), hq.trans (fst_go (by omega) (by unfold fit; rw [hfe]; exact c48)), lv_sub hl [2, 3, 0] rfl⟩
        · skip
          refine lv_iload_n hx hb dX1_firstFault_63 rfl (lv_at hl 3 rfl) ?_
          refine lv_istore_n (lv' := [(1, .int (nI i)), (3, .int (bI (ftA pg n i))), (0, .ref a), (2, .int (nI i))]) hx hb dX1_firstFault_64 rfl hl (by decide) rfl (fun ls hl => ?_)
          refine kn_iinc (k := 3) (x := i) (d := 1) (lv' := [(2, .int (nI (i + 1))), (1, .int (nI i)), (3, .int (bI (ftA pg n i))), (0, .ref a)]) hx hb dX1_firstFault_65 hl rfl (by decide) rfl (fun ls hl => ?_)
          refine lv_goto (tgt := 4) hx hb dX1_firstFault_68 (by decide) ?_
          have hl : lv_has ls 4 [(2, .int (nI (i + 1))), (1, .int (eI (fE pg n (i + 1)))), (3, .int (bI (ftA pg n i))), (0, .ref a)] := by
            have e9 : nI i = eI (fE pg n (i + 1)) := by rw [fE, if_pos (by omega)]; rfl
            rw [← e9]
            exact hl
          exact ih4 (()) _ (by omega) ⟨(by omega), hq.trans (fst_go (by omega) (by unfold fit; rw [hfe]; exact c48)), lv_sub hl [3, 1, 0] rfl⟩
      · skip
        refine lv_iload_n hx hb dX1_firstFault_51 rfl (lv_at hl 3 rfl) ?_
        exact ro_ri hx hb hr hlk dX1_firstFault_52 (by rw [hq, fst_hit (by omega) (by unfold fit; rw [hfe]; exact c48)])
    · skip
      have he9 := fE_lt hfe
      rw [hfe] at hl
      have hl : lv_has ls 4 [(0, .ref a), (1, .int (nI e9)), (2, .int (nI i))] := hl
      refine lv_iload_n hx hb dX1_firstFault_12 rfl (lv_at hl 1 rfl) ?_
      refine lv_iconst (v := (-1)) hx hb dX1_firstFault_13 (by decide) ?_
      refine kt_icmp_ne (tgt := 25) hx hb dX1_firstFault_14 (by decide) (nI_toInt (by omega)) (rfl : _ = (-1 : Int)) (fun c14 => ?_) (fun c14 => absurd c14 (by omega))
      refine lv_iload_n hx hb dX1_firstFault_25 rfl (lv_at hl 2 rfl) ?_
      refine lv_iload_n hx hb dX1_firstFault_26 rfl (lv_at hl 1 rfl) ?_
      refine lv_iconst (v := nI 1) hx hb dX1_firstFault_27 (by decide) ?_
      refine kn_iadd hx hb dX1_firstFault_28 ?_
      refine kt_icmp_ne (tgt := 45) hx hb dX1_firstFault_29 (by decide) (nI_toInt (by omega)) (nI_toInt (by omega)) (fun c29 => ?_) (fun c29 => ?_)
      · skip
        refine lv_iconst (v := nI 0) hx hb dX1_firstFault_45 (by decide) ?_
        refine lv_istore_n (lv' := [(3, .int (nI 0)), (0, .ref a), (1, .int (nI e9)), (2, .int (nI i))]) hx hb dX1_firstFault_46 rfl hl (by decide) rfl (fun ls hl => ?_)
        refine lv_iload_n hx hb dX1_firstFault_47 rfl (lv_at hl 0 rfl) ?_
        refine kt_if_ne (tgt := 53) hx hb dX1_firstFault_48 (by decide) (nI_toInt (by decide)) (fun c48 => absurd c48 (by omega)) (fun c48 => ?_)
        refine lv_iload_n hx hb dX1_firstFault_51 rfl (lv_at hl 3 rfl) ?_
        exact ro_ri hx hb hr hlk dX1_firstFault_52 (by rw [hq, fst_hit (by omega) (by unfold fit; rw [hfe]; dsimp only; rw [decide_eq_false (by omega)]; rfl)])
      · skip
        refine lv_aload_n hx hb dX1_firstFault_32 rfl (lv_at hl 0 rfl) ?_
        refine lv_iload_n hx hb dX1_firstFault_33 rfl (lv_at hl 2 rfl) ?_
        refine lv_iconst (v := nI 1) hx hb dX1_firstFault_34 (by decide) ?_
        refine ro_Vi (As := [.int (nI i), .int (nI 1)]) (rest := []) (v := bI (dgt (cd pg n i) 1)) ⟨hx, hb, hml, hown, hts⟩ (c_X1_isDigit l D cy ev a b pg n hn hpg i 1 (by omega) (by omega)) (kz_cwV 2 hts wm_205 wm_202 wm_203 wm_204 wm_14 rfl rfl (by decide +kernel) ⟨Nat.le_of_ble_eq_true rfl, Nat.le_of_ble_eq_true rfl⟩) hK hE (hP.sub (ws' := [zO a 1 [.ref b, .int (nI n)], zI cy b 18 (fun i9 => nI (pg i9))]) [0, 1] rfl) (kz_recv 0 hK hP rfl rfl) rfl hl.1 rfl (Nat.le_of_ble_eq_true rfl) dX1_firstFault_35 ⟨Nat.le_of_ble_eq_true rfl, Nat.le_of_ble_eq_true rfl⟩ ?_
        refine kt_ifB_eq (tgt := 45) hx hb dX1_firstFault_38 (by decide) (fun c38 => ?_) (fun c38 => ?_)
        · skip
          refine lv_iconst (v := nI 0) hx hb dX1_firstFault_45 (by decide) ?_
          refine lv_istore_n (lv' := [(3, .int (nI 0)), (0, .ref a), (1, .int (nI e9)), (2, .int (nI i))]) hx hb dX1_firstFault_46 rfl hl (by decide) rfl (fun ls hl => ?_)
          refine lv_iload_n hx hb dX1_firstFault_47 rfl (lv_at hl 0 rfl) ?_
          refine kt_if_ne (tgt := 53) hx hb dX1_firstFault_48 (by decide) (nI_toInt (by decide)) (fun c48 => absurd c48 (by omega)) (fun c48 => ?_)
          refine lv_iload_n hx hb dX1_firstFault_51 rfl (lv_at hl 3 rfl) ?_
          exact ro_ri hx hb hr hlk dX1_firstFault_52 (by rw [hq, fst_hit (by omega) (by unfold fit; rw [hfe]; dsimp only; rw [c38, Bool.and_false])])
        · skip
          refine lv_iconst (v := nI 1) hx hb dX1_firstFault_41 (by decide) ?_
          refine lv_goto (tgt := 46) hx hb dX1_firstFault_42 (by decide) ?_
          refine lv_istore_n (lv' := [(3, .int (nI 1)), (0, .ref a), (1, .int (nI e9)), (2, .int (nI i))]) hx hb dX1_firstFault_46 rfl hl (by decide) rfl (fun ls hl => ?_)
          refine lv_iload_n hx hb dX1_firstFault_47 rfl (lv_at hl 0 rfl) ?_
          refine kt_if_ne (tgt := 53) hx hb dX1_firstFault_48 (by decide) (nI_toInt (by decide)) (fun c48 => ?_) (fun c48 => absurd c48 (by omega))
          refine lv_aload_n hx hb dX1_firstFault_53 rfl (lv_at hl 1 rfl) ?_
          refine lv_iload_n hx hb dX1_firstFault_54 rfl (lv_at hl 3 rfl) ?_
          refine ro_Vi (As := [.int (nI i)]) (rest := []) (v := nI (cd pg n i)) ⟨hx, hb, hml, hown, hts⟩ (c_X1_codeAt l D cy ev a b pg n hn hpg i (by omega)) (kz_cwV 1 hts wm_112 wm_109 wm_110 wm_111 wm_14 rfl rfl (by decide +kernel) ⟨Nat.le_of_ble_eq_true rfl, Nat.le_of_ble_eq_true rfl⟩) hK hE (hP.sub (ws' := [zO a 1 [.ref b, .int (nI n)], zI cy b 18 (fun i9 => nI (pg i9))]) [0, 1] rfl) (kz_recv 0 hK hP rfl rfl) rfl hl.1 rfl (Nat.le_of_ble_eq_true rfl) dX1_firstFault_55 ⟨Nat.le_of_ble_eq_true rfl, Nat.le_of_ble_eq_true rfl⟩ ?_
          have hcd58 : cd pg n i ≤ 126 := cd_le hpg _
          refine lv_bipush (v := nI 59) hx hb dX1_firstFault_58 (by decide) ?_
          refine kt_icmp_ne (tgt := 65) hx hb dX1_firstFault_60 (by decide) (nI_toInt (by omega)) (nI_toInt (by decide)) (fun c60 => ?_) (fun c60 => ?_)
          · skip
            refine kn_iinc (k := 3) (x := i) (d := 1) (lv' := [(2, .int (nI (i + 1))), (3, .int (nI 1)), (0, .ref a), (1, .int (nI e9))]) hx hb dX1_firstFault_65 hl rfl (by decide) rfl (fun ls hl => ?_)
            refine lv_goto (tgt := 4) hx hb dX1_firstFault_68 (by decide) ?_
            have hl : lv_has ls 4 [(2, .int (nI (i + 1))), (3, .int (nI 1)), (0, .ref a), (1, .int (eI (fE pg n (i + 1))))] := by
              have e9 : nI e9 = eI (fE pg n (i + 1)) := by rw [fE, if_neg (by omega), hfe]; rfl
              rw [← e9]
              exact hl
            exact ih4 (()) _ (by omega) ⟨(by omega), hq.trans (fst_go (by omega) (by unfold fit; rw [hfe]; dsimp only; rw [c38, decide_eq_true (by omega)]; rfl)), lv_sub hl [2, 3, 0] rfl⟩
          · skip
            refine lv_iload_n hx hb dX1_firstFault_63 rfl (lv_at hl 3 rfl) ?_
            refine lv_istore_n (lv' := [(1, .int (nI i)), (3, .int (nI 1)), (0, .ref a), (2, .int (nI i))]) hx hb dX1_firstFault_64 rfl hl (by decide) rfl (fun ls hl => ?_)
            refine kn_iinc (k := 3) (x := i) (d := 1) (lv' := [(2, .int (nI (i + 1))), (1, .int (nI i)), (3, .int (nI 1)), (0, .ref a)]) hx hb dX1_firstFault_65 hl rfl (by decide) rfl (fun ls hl => ?_)
            refine lv_goto (tgt := 4) hx hb dX1_firstFault_68 (by decide) ?_
            have hl : lv_has ls 4 [(2, .int (nI (i + 1))), (1, .int (eI (fE pg n (i + 1)))), (3, .int (nI 1)), (0, .ref a)] := by
              have e9 : nI i = eI (fE pg n (i + 1)) := by rw [fE, if_pos (by omega)]; rfl
              rw [← e9]
              exact hl
            exact ih4 (()) _ (by omega) ⟨(by omega), hq.trans (fst_go (by omega) (by unfold fit; rw [hfe]; dsimp only; rw [c38, decide_eq_true (by omega)]; rfl)), lv_sub hl [3, 1, 0] rfl⟩
set_option maxHeartbeats 4000000 in
set_option maxRecDepth 100000 in
theorem c_X1_isWhole (l : Launch) (D : va_G) (cy : Nat → ClassId) (ev : kz_V) (a b : Nat) (pg : Nat → Nat) (n : Nat) (hn : n ≤ 18) (hpg : ∀ i, i < n → 32 ≤ pg i ∧ pg i ≤ 126) : Met l yX1_isWhole (.code yX1_isWhole cX1_isWhole 1 (some .boolean) :: WB) { frames := 7, cells := 0, slots := 0, locals := 156 } (ro_Pc D cy ev [.ref a] [zO a 1 [.ref b, .int (nI n)], zI cy b 18 (fun i9 => nI (pg i9))]) (vp_Si (fun r => r = bI (whl pg n))) 0 0 (fun _ => False) := by
  refine Met.ofW (cc := cX1_isWhole) (maxL := 1) (ret := (some .boolean)) (by decide) rfl ?_
  intro p e s m args below meth c s₁ B hml hv
  obtain ⟨rfl, hP, hK, hE⟩ := hv
  have hx := B.exec
  have hb := B.bytes
  have hr := B.returns
  have hlk := B.notSynchronized
  have hts : ∀ w ∈ WB, w.before _ s = true := fun w h => atoms_spec B.pre w (List.mem_cons_of_mem _ h)
  have hown : s.vm.findClass RX1 = some m.cls := findClass_of_methodNamed B.named
  have hl := lv_entry ([.ref a]) (n := 1) (Nat.le_of_ble_eq_true rfl)
  rw [lg_entry_eq]
  generalize (lg_sl ([.ref a]) ++ List.replicate (1 - (lg_sl ([.ref a])).length) Slot.unset).toArray = ls at hl ⊢
  have hl : lv_has ls 1 [(0, .ref a)] := hl
  rcases Nat.lt_or_ge n 2 with h2 | h2
  · skip
    refine lv_aload_n hx hb dX1_isWhole_0 rfl (lv_at hl 0 rfl) ?_
    refine ro_Vi (As := []) (rest := []) (v := nI (flt pg n)) ⟨hx, hb, hml, hown, hts⟩ (c_X1_firstFault l D cy ev a b pg n hn hpg) (kz_cwV 0 hts wm_100 wm_247 wm_98 wm_99 wm_14 rfl rfl (by decide +kernel) ⟨Nat.le_of_ble_eq_true rfl, Nat.le_of_ble_eq_true rfl⟩) hK hE (hP.sub (ws' := [zO a 1 [.ref b, .int (nI n)], zI cy b 18 (fun i9 => nI (pg i9))]) [0, 1] rfl) (kz_recv 0 hK hP rfl rfl) rfl hl.1 rfl (Nat.le_of_ble_eq_true rfl) dX1_isWhole_1 ⟨Nat.le_of_ble_eq_true rfl, Nat.le_of_ble_eq_true rfl⟩ ?_
    have hfl := flt_le pg n
    refine lv_aload_n hx hb dX1_isWhole_4 rfl (lv_at hl 0 rfl) ?_
    refine va_get (ci := 1) (C := RX1) (T := TX1) (N := 2) hx hb hts inX1 hown hK hP 0 rfl rfl 1 (by decide) (hts _ wm_76) (fun _ h9 => h9) rfl dX1_isWhole_5 ?_
    refine kt_icmp_ne (tgt := 30) hx hb dX1_isWhole_8 (by decide) (nI_toInt (by omega)) (nI_toInt (by omega)) (fun c8 => ?_) (fun c8 => ?_)
    · skip
      refine lv_iconst (v := nI 0) hx hb dX1_isWhole_30 (by decide) ?_
      exact ro_rz hx hb hr hlk dX1_isWhole_31 rfl ((congrArg bI (show whl pg n = false from by unfold whl; simp; omega)).symm)
    · skip
      refine lv_aload_n hx hb dX1_isWhole_11 rfl (lv_at hl 0 rfl) ?_
      refine lv_aload_n hx hb dX1_isWhole_12 rfl (lv_at hl 0 rfl) ?_
      refine va_get (ci := 1) (C := RX1) (T := TX1) (N := 2) hx hb hts inX1 hown hK hP 0 rfl rfl 1 (by decide) (hts _ wm_76) (fun _ h9 => h9) rfl dX1_isWhole_13 ?_
      refine lv_iconst (v := nI 2) hx hb dX1_isWhole_16 (by decide) ?_
      refine lv_isub hx hb dX1_isWhole_17 ?_
      have hneg : ((nI n) - (nI 2)).toInt < 0 := by rw [pk_sub_toInt (by omega) (by decide)]; omega
      refine ro_Vi (As := [.int ((nI n) - (nI 2))]) (rest := []) (v := nI 0) ⟨hx, hb, hml, hown, hts⟩ (c_X1_codeAt_n l D cy ev a b pg n hn hpg ((nI n) - (nI 2)) (by omega)) (kz_cwV 1 hts wm_112 wm_109 wm_110 wm_111 wm_14 rfl rfl (by decide +kernel) ⟨Nat.le_of_ble_eq_true rfl, Nat.le_of_ble_eq_true rfl⟩) hK hE (hP.sub (ws' := [zO a 1 [.ref b, .int (nI n)], zI cy b 18 (fun i9 => nI (pg i9))]) [0, 1] rfl) (kz_recv 0 hK hP rfl rfl) rfl hl.1 rfl (Nat.le_of_ble_eq_true rfl) dX1_isWhole_18 ⟨Nat.le_of_ble_eq_true rfl, Nat.le_of_ble_eq_true rfl⟩ ?_
      refine lv_bipush (v := nI 59) hx hb dX1_isWhole_21 (by decide) ?_
      refine kt_icmp_ne (tgt := 30) hx hb dX1_isWhole_23 (by decide) (nI_toInt (by decide)) (nI_toInt (by decide)) (fun c23 => ?_) (fun c23 => ?_)
      · skip
        refine lv_iconst (v := nI 0) hx hb dX1_isWhole_30 (by decide) ?_
        exact ro_rz hx hb hr hlk dX1_isWhole_31 rfl ((congrArg bI (show whl pg n = false from by unfold whl; simp; omega)).symm)
      · skip
        refine lv_iconst (v := nI 1) hx hb dX1_isWhole_26 (by decide) ?_
        refine lv_goto (tgt := 31) hx hb dX1_isWhole_27 (by decide) ?_
        exact ro_rz hx hb hr hlk dX1_isWhole_31 rfl ((congrArg bI (show whl pg n = true from by unfold whl; simp; omega)).symm)
  · skip
    refine lv_aload_n hx hb dX1_isWhole_0 rfl (lv_at hl 0 rfl) ?_
    refine ro_Vi (As := []) (rest := []) (v := nI (flt pg n)) ⟨hx, hb, hml, hown, hts⟩ (c_X1_firstFault l D cy ev a b pg n hn hpg) (kz_cwV 0 hts wm_100 wm_247 wm_98 wm_99 wm_14 rfl rfl (by decide +kernel) ⟨Nat.le_of_ble_eq_true rfl, Nat.le_of_ble_eq_true rfl⟩) hK hE (hP.sub (ws' := [zO a 1 [.ref b, .int (nI n)], zI cy b 18 (fun i9 => nI (pg i9))]) [0, 1] rfl) (kz_recv 0 hK hP rfl rfl) rfl hl.1 rfl (Nat.le_of_ble_eq_true rfl) dX1_isWhole_1 ⟨Nat.le_of_ble_eq_true rfl, Nat.le_of_ble_eq_true rfl⟩ ?_
    have hfl := flt_le pg n
    refine lv_aload_n hx hb dX1_isWhole_4 rfl (lv_at hl 0 rfl) ?_
    refine va_get (ci := 1) (C := RX1) (T := TX1) (N := 2) hx hb hts inX1 hown hK hP 0 rfl rfl 1 (by decide) (hts _ wm_76) (fun _ h9 => h9) rfl dX1_isWhole_5 ?_
    refine kt_icmp_ne (tgt := 30) hx hb dX1_isWhole_8 (by decide) (nI_toInt (by omega)) (nI_toInt (by omega)) (fun c8 => ?_) (fun c8 => ?_)
    · skip
      refine lv_iconst (v := nI 0) hx hb dX1_isWhole_30 (by decide) ?_
      exact ro_rz hx hb hr hlk dX1_isWhole_31 rfl ((congrArg bI (show whl pg n = false from by unfold whl; simp; omega)).symm)
    · skip
      refine lv_aload_n hx hb dX1_isWhole_11 rfl (lv_at hl 0 rfl) ?_
      refine lv_aload_n hx hb dX1_isWhole_12 rfl (lv_at hl 0 rfl) ?_
      refine va_get (ci := 1) (C := RX1) (T := TX1) (N := 2) hx hb hts inX1 hown hK hP 0 rfl rfl 1 (by decide) (hts _ wm_76) (fun _ h9 => h9) rfl dX1_isWhole_13 ?_
      refine lv_iconst (v := nI 2) hx hb dX1_isWhole_16 (by decide) ?_
      refine kn_isub hx hb dX1_isWhole_17 (by omega) ?_
      refine ro_Vi (As := [.int (nI (n - 2))]) (rest := []) (v := nI (cd pg n (n - 2))) ⟨hx, hb, hml, hown, hts⟩ (c_X1_codeAt l D cy ev a b pg n hn hpg (n - 2) (by omega)) (kz_cwV 1 hts wm_112 wm_109 wm_110 wm_111 wm_14 rfl rfl (by decide +kernel) ⟨Nat.le_of_ble_eq_true rfl, Nat.le_of_ble_eq_true rfl⟩) hK hE (hP.sub (ws' := [zO a 1 [.ref b, .int (nI n)], zI cy b 18 (fun i9 => nI (pg i9))]) [0, 1] rfl) (kz_recv 0 hK hP rfl rfl) rfl hl.1 rfl (Nat.le_of_ble_eq_true rfl) dX1_isWhole_18 ⟨Nat.le_of_ble_eq_true rfl, Nat.le_of_ble_eq_true rfl⟩ ?_
      have hcd21 : cd pg n (n - 2) ≤ 126 := cd_le hpg _
      refine lv_bipush (v := nI 59) hx hb dX1_isWhole_21 (by decide) ?_
      refine kt_icmp_ne (tgt := 30) hx hb dX1_isWhole_23 (by decide) (nI_toInt (by omega)) (nI_toInt (by decide)) (fun c23 => ?_) (fun c23 => ?_)
      · skip
        refine lv_iconst (v := nI 0) hx hb dX1_isWhole_30 (by decide) ?_
        exact ro_rz hx hb hr hlk dX1_isWhole_31 rfl ((congrArg bI (show whl pg n = false from by unfold whl; simp; omega)).symm)
      · skip
        refine lv_iconst (v := nI 1) hx hb dX1_isWhole_26 (by decide) ?_
        refine lv_goto (tgt := 31) hx hb dX1_isWhole_27 (by decide) ?_
        exact ro_rz hx hb hr hlk dX1_isWhole_31 rfl ((congrArg bI (show whl pg n = true from by unfold whl; simp; omega)).symm)
set_option maxHeartbeats 4000000 in
set_option maxRecDepth 100000 in
theorem c_X1_accusedCount (l : Launch) (D : va_G) (cy : Nat → ClassId) (ev : kz_V) (a b : Nat) (pg : Nat → Nat) (n : Nat) (hn : n ≤ 18) (hpg : ∀ i, i < n → 32 ≤ pg i ∧ pg i ≤ 126) (h1 : 1 ≤ n) : Met l yX1_accusedCount (.code yX1_accusedCount cX1_accusedCount 1 (some .int) :: WB) { frames := 1, cells := 0, slots := 0, locals := 13 } (ro_Pc D cy ev [.ref a] [zO a 1 [.ref b, .int (nI n)], zI cy b 18 (fun i9 => nI (pg i9))]) (vp_Si (fun r => r = nI (min 4 ((n - 1) / 4)))) 0 0 (fun _ => False) := by
  refine Met.ofW (cc := cX1_accusedCount) (maxL := 1) (ret := (some .int)) (by decide) rfl ?_
  intro p e s m args below meth c s₁ B hml hv
  obtain ⟨rfl, hP, hK, hE⟩ := hv
  have hx := B.exec
  have hb := B.bytes
  have hr := B.returns
  have hlk := B.notSynchronized
  have hts : ∀ w ∈ WB, w.before _ s = true := fun w h => atoms_spec B.pre w (List.mem_cons_of_mem _ h)
  have hown : s.vm.findClass RX1 = some m.cls := findClass_of_methodNamed B.named
  have hl := lv_entry ([.ref a]) (n := 1) (Nat.le_of_ble_eq_true rfl)
  rw [lg_entry_eq]
  generalize (lg_sl ([.ref a]) ++ List.replicate (1 - (lg_sl ([.ref a])).length) Slot.unset).toArray = ls at hl ⊢
  have hl : lv_has ls 1 [(0, .ref a)] := hl
  refine lv_iconst (v := nI 4) hx hb dX1_accusedCount_0 (by decide) ?_
  refine lv_aload_n hx hb dX1_accusedCount_1 rfl (lv_at hl 0 rfl) ?_
  refine va_get (ci := 1) (C := RX1) (T := TX1) (N := 2) hx hb hts inX1 hown hK hP 0 rfl rfl 1 (by decide) (hts _ wm_76) (fun _ h9 => h9) rfl dX1_accusedCount_2 ?_
  refine lv_iconst (v := nI 1) hx hb dX1_accusedCount_5 (by decide) ?_
  refine kn_isub hx hb dX1_accusedCount_6 (by omega) ?_
  refine lv_iconst (v := nI 4) hx hb dX1_accusedCount_7 (by decide) ?_
  refine kn_idiv hx hb dX1_accusedCount_8 (by omega) (by omega) (by omega) ?_
  refine va_mmin hx hb (hml.trans hl.1.symm) hown (hts _ wm_252) (hts _ wm_146) (hts _ wm_143) (hts _ wm_147) (Nat.le_of_ble_eq_true rfl) (Nat.le_of_ble_eq_true rfl) (Nat.le_of_ble_eq_true rfl) (Nat.le_of_ble_eq_true rfl) dX1_accusedCount_9 ?_
  exact ro_ri hx hb hr hlk dX1_accusedCount_12 (by rw [min4 hn])
set_option maxHeartbeats 4000000 in
set_option maxRecDepth 100000 in
theorem c_X7_fault (l : Launch) (D : va_G) (cy : Nat → ClassId) (ev : kz_V) (ax : Nat → Nat) (g : Nat → Nat) (q : Nat → Nat → Nat) (bt : Nat → Nat → Int32) (rv : Nat → Nat → Nat) (pf : Nat → Option Nat) (hI : XI g q) : Met l yX7_fault (.code yX7_fault cX7_fault 1 (some .int) :: WB) { frames := 7, cells := 0, slots := 0, locals := 156 } (ro_Pc D cy ev [.ref (ax 0)] [zO (ax 0) 7 [.ref (ax 1), .ref (ax 3), .ref (ax 4), .ref (ax 10), .ref (ax 16), .int (nI (g 0)), .int (nI (g 4)), .int (nI (g 6)), .int (nI (g 5))], zO (ax 1) 1 [.ref (ax 2), .int (nI (g 3))], zI cy (ax 2) 18 (fun i9 => nI ((q 7) i9)), zQ cy (ax 3) 4 pf, zO (ax 4) 4 [.ref (ax 5), .ref (ax 6), .ref (ax 7), .ref (ax 8), .ref (ax 9), .int (nI (g 2)), .int (nI (g 1))], zI cy (ax 5) 4 (fun i9 => nI ((q 3) i9)), zJ cy (ax 6) 4 (fun i9 => lN ((q 4) i9)), zI cy (ax 7) 4 (fun i9 => nI ((q 5) i9)), zI cy (ax 8) 4 (fun i9 => nI ((q 6) i9)), zI cy (ax 9) 4 (bt 0), zO (ax 10) 4 [.ref (ax 11), .ref (ax 12), .ref (ax 13), .ref (ax 14), .ref (ax 15), .int (nI (g 8)), .int (nI (g 7))], zI cy (ax 11) 4 (fun i9 => nI ((q 8) i9)), zJ cy (ax 12) 4 (fun i9 => lN ((q 9) i9)), zI cy (ax 13) 4 (fun i9 => nI ((q 10) i9)), zI cy (ax 14) 4 (fun i9 => nI ((q 11) i9)), zI cy (ax 15) 4 (bt 1), zG cy (ax 16) 4 (fun i => if i < 4 then some (ax (17 + i)) else none), zJ cy (ax 17) 4 (fun i9 => lN ((rv 0) i9)), zJ cy (ax 18) 4 (fun i9 => lN ((rv 1) i9)), zJ cy (ax 19) 4 (fun i9 => lN ((rv 2) i9)), zJ cy (ax 20) 4 (fun i9 => lN ((rv 3) i9))]) (vp_Si (fun r => r = nI (flt (q 7) (g 3)))) 0 0 (fun _ => False) := by
  refine Met.ofW (cc := cX7_fault) (maxL := 1) (ret := (some .int)) (by decide) rfl ?_
  intro p e s m args below meth c s₁ B hml hv
  obtain ⟨rfl, hP, hK, hE⟩ := hv
  have hx := B.exec
  have hb := B.bytes
  have hr := B.returns
  have hlk := B.notSynchronized
  have hts : ∀ w ∈ WB, w.before _ s = true := fun w h => atoms_spec B.pre w (List.mem_cons_of_mem _ h)
  have hown : s.vm.findClass RX7 = some m.cls := findClass_of_methodNamed B.named
  have hl := lv_entry ([.ref (ax 0)]) (n := 1) (Nat.le_of_ble_eq_true rfl)
  rw [lg_entry_eq]
  generalize (lg_sl ([.ref (ax 0)]) ++ List.replicate (1 - (lg_sl ([.ref (ax 0)])).length) Slot.unset).toArray = ls at hl ⊢
  have hl : lv_has ls 1 [(0, .ref (ax 0))] := hl
  refine lv_aload_n hx hb dX7_fault_0 rfl (lv_at hl 0 rfl) ?_
  refine va_get (ci := 7) (C := RX7) (T := TX7) (N := 9) hx hb hts inX7 hown hK hP 0 rfl rfl 0 (by decide) (hts _ wm_15) (fun _ h9 => h9) rfl dX7_fault_1 ?_
  refine ro_Vi (As := []) (rest := []) (v := nI (flt (q 7) (g 3))) ⟨hx, hb, hml, hown, hts⟩ (c_X1_firstFault l D cy ev (ax 1) (ax 2) (q 7) (g 3) hI.pl hI.pg) (kz_cwV 0 hts wm_100 wm_97 wm_98 wm_99 wm_14 rfl rfl (by decide +kernel) ⟨Nat.le_of_ble_eq_true rfl, Nat.le_of_ble_eq_true rfl⟩) hK hE (hP.sub (ws' := [zO (ax 1) 1 [.ref (ax 2), .int (nI (g 3))], zI cy (ax 2) 18 (fun i9 => nI ((q 7) i9))]) [1, 2] rfl) (kz_recv 1 hK hP rfl rfl) rfl hl.1 rfl (Nat.le_of_ble_eq_true rfl) dX7_fault_4 ⟨Nat.le_of_ble_eq_true rfl, Nat.le_of_ble_eq_true rfl⟩ ?_
  have hfl := flt_le (q 7) (g 3)
  exact ro_ri hx hb hr hlk dX7_fault_7 (rfl)
