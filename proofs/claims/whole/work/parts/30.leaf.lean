set_option maxHeartbeats 4000000 in
set_option maxRecDepth 100000 in
theorem c_X7_heaviest (l : Launch) (D : va_G) (cy : Nat → ClassId) (ev : kz_V) (a : Nat) (v : Nat → Nat) (hv : ∀ i, i < 4 → v i < 2 ^ 62) : Met l yX7_heaviest (.code yX7_heaviest cX7_heaviest 3 (some .int) :: WB) { frames := 0, cells := 0, slots := 0, locals := 0 } (ro_Pc D cy ev [.ref a] [zJ cy a 4 (fun i9 => lN (v i9))]) (vp_Si (fun r => r = nI (amx v 4))) 0 0 (fun _ => False) := by
  refine Met.ofW (cc := cX7_heaviest) (maxL := 3) (ret := (some .int)) (by decide) rfl ?_
  intro p e s m args below meth c s₁ B hml hv
  obtain ⟨rfl, hP, hK, hE⟩ := hv
  have hx := B.exec
  have hb := B.bytes
  have hr := B.returns
  have hlk := B.notSynchronized
  have hts : ∀ w ∈ WB, w.before _ s = true := fun w h => atoms_spec B.pre w (List.mem_cons_of_mem _ h)
  have hown : s.vm.findClass RX7 = some m.cls := findClass_of_methodNamed B.named
  have hl := lv_entry ([.ref a]) (n := 3) (Nat.le_of_ble_eq_true rfl)
  rw [lg_entry_eq]
  generalize (lg_sl ([.ref a]) ++ List.replicate (3 - (lg_sl ([.ref a])).length) Slot.unset).toArray = ls at hl ⊢
  have hl : lv_has ls 3 [(0, .ref a)] := hl
  refine lv_iconst (v := nI 0) hx hb dX7_heaviest_0 (by decide) ?_
  refine lv_istore_n (lv' := [(1, .int (nI 0)), (0, .ref a)]) hx hb dX7_heaviest_1 rfl hl (by decide) rfl (fun ls hl => ?_)
  refine lv_iconst (v := nI 1) hx hb dX7_heaviest_2 (by decide) ?_
  refine lv_istore_n (lv' := [(2, .int (nI 1)), (1, .int (nI 0)), (0, .ref a)]) hx hb dX7_heaviest_3 rfl hl (by decide) rfl (fun ls hl => ?_)
  have hl : lv_has ls 3 [(2, .int (nI 1)), (1, .int (nI (amx v 1))), (0, .ref a)] := by
    have e9 : nI 0 = nI (amx v 1) := (by simp [amx])
    rw [← e9]
    exact hl
  refine kn_loopR (α := Unit) (4) (fun i _ ls => (1 ≤ i) ∧ (i ≤ 4) ∧ lv_has ls 3 [(0, .ref a), (1, .int (nI (amx v i))), (2, .int (nI i))]) (1) (()) ⟨(by decide), (by decide), lv_sub hl [2, 1, 0] rfl⟩ (fun i _ ls hI ih4 => ?_)
  obtain ⟨h1, hi, hl⟩ := hI
  have ha := amx_lt v i (by omega)
  refine lv_iload_n hx hb dX7_heaviest_4 rfl (lv_at hl 2 rfl) ?_
  refine lv_iconst (v := nI 4) hx hb dX7_heaviest_5 (by decide) ?_
  refine kt_icmp_ge (tgt := 27) hx hb dX7_heaviest_6 (by decide) (nI_toInt (by omega)) (nI_toInt (by decide)) (fun c6 => ?_) (fun c6 => ?_)
  · skip
    refine lv_iload_n hx hb dX7_heaviest_27 rfl (lv_at hl 1 rfl) ?_
    exact ro_ri hx hb hr hlk dX7_heaviest_28 (by rw [show i = 4 by omega])
  · skip
    refine lv_aload_n hx hb dX7_heaviest_9 rfl (lv_at hl 0 rfl) ?_
    refine lv_iload_n hx hb dX7_heaviest_10 rfl (lv_at hl 2 rfl) ?_
    refine kn_lald (v := lN (v i)) hx hb hK hP 0 rfl (by omega) (by decide) rfl dX7_heaviest_11 ?_
    have hbi := hv i (by omega)
    refine lv_aload_n hx hb dX7_heaviest_12 rfl (lv_at hl 0 rfl) ?_
    refine lv_iload_n hx hb dX7_heaviest_13 rfl (lv_at hl 1 rfl) ?_
    refine kn_lald (v := lN (v (amx v i))) hx hb hK hP 0 rfl (by omega) (by decide) rfl dX7_heaviest_14 ?_
    have hbamx_v_i := hv (amx v i) (by omega)
    refine kt_lcmp_le (tgt := 21) hx hb dX7_heaviest_15 dX7_heaviest_16 (by decide) (pk_lT (by omega)) (pk_lT (by omega)) (fun c15 => ?_) (fun c15 => ?_)
    · skip
      refine kn_iinc (k := 2) (x := i) (d := 1) (lv' := [(2, .int (nI (i + 1))), (0, .ref a), (1, .int (nI (amx v i)))]) hx hb dX7_heaviest_21 hl rfl (by decide) rfl (fun ls hl => ?_)
      refine lv_goto (tgt := 4) hx hb dX7_heaviest_24 (by decide) ?_
      have hl : lv_has ls 3 [(2, .int (nI (i + 1))), (0, .ref a), (1, .int (nI (amx v (i + 1))))] := by
        have e9 : nI (amx v i) = nI (amx v (i + 1)) := congrArg nI (amx_no (by omega))
        rw [← e9]
        exact hl
      exact ih4 (()) _ (by omega) ⟨(by omega), (by omega), lv_sub hl [1, 2, 0] rfl⟩
    · skip
      refine lv_iload_n hx hb dX7_heaviest_19 rfl (lv_at hl 2 rfl) ?_
      refine lv_istore_n (lv' := [(1, .int (nI i)), (0, .ref a), (2, .int (nI i))]) hx hb dX7_heaviest_20 rfl hl (by decide) rfl (fun ls hl => ?_)
      refine kn_iinc (k := 2) (x := i) (d := 1) (lv' := [(2, .int (nI (i + 1))), (1, .int (nI i)), (0, .ref a)]) hx hb dX7_heaviest_21 hl rfl (by decide) rfl (fun ls hl => ?_)
      refine lv_goto (tgt := 4) hx hb dX7_heaviest_24 (by decide) ?_
      have hl : lv_has ls 3 [(2, .int (nI (i + 1))), (1, .int (nI (amx v (i + 1)))), (0, .ref a)] := by
        have e9 : nI i = nI (amx v (i + 1)) := congrArg nI (amx_yes (by omega))
        rw [← e9]
        exact hl
      exact ih4 (()) _ (by omega) ⟨(by omega), (by omega), lv_sub hl [2, 1, 0] rfl⟩
set_option maxHeartbeats 4000000 in
set_option maxRecDepth 100000 in
theorem c_X7_sumOf (l : Launch) (D : va_G) (cy : Nat → ClassId) (ev : kz_V) (a : Nat) (v : Nat → Nat) : Met l yX7_sumOf (.code yX7_sumOf cX7_sumOf 3 (some .int) :: WB) { frames := 0, cells := 0, slots := 0, locals := 0 } (ro_Pc D cy ev [.ref a] [zI cy a 4 (fun i9 => nI (v i9))]) (vp_Si (fun r => r = nI (sm v 4))) 0 0 (fun _ => False) := by
  refine Met.ofW (cc := cX7_sumOf) (maxL := 3) (ret := (some .int)) (by decide) rfl ?_
  intro p e s m args below meth c s₁ B hml hv
  obtain ⟨rfl, hP, hK, hE⟩ := hv
  have hx := B.exec
  have hb := B.bytes
  have hr := B.returns
  have hlk := B.notSynchronized
  have hts : ∀ w ∈ WB, w.before _ s = true := fun w h => atoms_spec B.pre w (List.mem_cons_of_mem _ h)
  have hown : s.vm.findClass RX7 = some m.cls := findClass_of_methodNamed B.named
  have hl := lv_entry ([.ref a]) (n := 3) (Nat.le_of_ble_eq_true rfl)
  rw [lg_entry_eq]
  generalize (lg_sl ([.ref a]) ++ List.replicate (3 - (lg_sl ([.ref a])).length) Slot.unset).toArray = ls at hl ⊢
  have hl : lv_has ls 3 [(0, .ref a)] := hl
  refine lv_iconst (v := nI 0) hx hb dX7_sumOf_0 (by decide) ?_
  refine lv_istore_n (lv' := [(1, .int (nI 0)), (0, .ref a)]) hx hb dX7_sumOf_1 rfl hl (by decide) rfl (fun ls hl => ?_)
  refine lv_iconst (v := nI 0) hx hb dX7_sumOf_2 (by decide) ?_
  refine lv_istore_n (lv' := [(2, .int (nI 0)), (1, .int (nI 0)), (0, .ref a)]) hx hb dX7_sumOf_3 rfl hl (by decide) rfl (fun ls hl => ?_)
  refine kn_loopR (α := Unit) (4) (fun i _ ls => (i ≤ 4) ∧ lv_has ls 3 [(0, .ref a), (1, .int (nI (sm v i))), (2, .int (nI i))]) (0) (()) ⟨(by decide), lv_sub hl [2, 1, 0] rfl⟩ (fun i _ ls hI ih4 => ?_)
  obtain ⟨hi, hl⟩ := hI
  refine lv_iload_n hx hb dX7_sumOf_4 rfl (lv_at hl 2 rfl) ?_
  refine lv_aload_n hx hb dX7_sumOf_5 rfl (lv_at hl 0 rfl) ?_
  refine va_alen (v := nI 4) hx hb hK hP 0 1 rfl rfl rfl dX7_sumOf_6 ?_
  refine kt_icmp_ge (tgt := 22) hx hb dX7_sumOf_7 (by decide) (nI_toInt (by omega)) (nI_toInt (by decide)) (fun c7 => ?_) (fun c7 => ?_)
  · skip
    refine lv_iload_n hx hb dX7_sumOf_22 rfl (lv_at hl 1 rfl) ?_
    exact ro_ri hx hb hr hlk dX7_sumOf_23 (by rw [show i = 4 by omega])
  · skip
    refine lv_iload_n hx hb dX7_sumOf_10 rfl (lv_at hl 1 rfl) ?_
    refine lv_aload_n hx hb dX7_sumOf_11 rfl (lv_at hl 0 rfl) ?_
    refine lv_iload_n hx hb dX7_sumOf_12 rfl (lv_at hl 2 rfl) ?_
    refine kn_iald (v := nI (v i)) hx hb hK hP 0 rfl (by omega) (by decide) rfl dX7_sumOf_13 ?_
    refine kn_iadd hx hb dX7_sumOf_14 ?_
    refine lv_istore_n (lv' := [(1, .int (nI ((sm v i) + (v i)))), (0, .ref a), (2, .int (nI i))]) hx hb dX7_sumOf_15 rfl hl (by decide) rfl (fun ls hl => ?_)
    refine kn_iinc (k := 2) (x := i) (d := 1) (lv' := [(2, .int (nI (i + 1))), (1, .int (nI ((sm v i) + (v i)))), (0, .ref a)]) hx hb dX7_sumOf_16 hl rfl (by decide) rfl (fun ls hl => ?_)
    refine lv_goto (tgt := 4) hx hb dX7_sumOf_19 (by decide) ?_
    exact ih4 (()) _ (by omega) ⟨(by omega), lv_sub hl [2, 1, 0] rfl⟩
set_option maxHeartbeats 4000000 in
set_option maxRecDepth 100000 in
theorem c_X7_commonDivisor_ (l : Launch) (D : va_G) (cy : Nat → ClassId) (ev : kz_V) (a b : Nat) (ha : a < 2 ^ 62) (hbb : b < 2 ^ 36) : Met l yX7_commonDivisor_ (.code yX7_commonDivisor_ cX7_commonDivisor_ 11 (some .long) :: WB) { frames := 0, cells := 0, slots := 0, locals := 0 } (ro_Pc D cy ev [.long (lN a), .long (lN b)] []) (vp_Sl (fun r => r = lN (Nat.gcd a b))) 0 0 (fun _ => False) := by
  refine Met.ofW (cc := cX7_commonDivisor_) (maxL := 11) (ret := (some .long)) (by decide) rfl ?_
  intro p e s m args below meth c s₁ B hml hv
  obtain ⟨rfl, hP, hK, hE⟩ := hv
  have hx := B.exec
  have hb := B.bytes
  have hr := B.returns
  have hlk := B.notSynchronized
  have hts : ∀ w ∈ WB, w.before _ s = true := fun w h => atoms_spec B.pre w (List.mem_cons_of_mem _ h)
  have hown : s.vm.findClass RX7 = some m.cls := findClass_of_methodNamed B.named
  have hl := lv_entry ([.long (lN a), .long (lN b)]) (n := 11) (Nat.le_of_ble_eq_true rfl)
  rw [lg_entry_eq]
  generalize (lg_sl ([.long (lN a), .long (lN b)]) ++ List.replicate (11 - (lg_sl ([.long (lN a), .long (lN b)])).length) Slot.unset).toArray = ls at hl ⊢
  have hl : lv_has ls 11 [(0, .long (lN a)), (2, .long (lN b))] := hl
  refine lv_lload_n hx hb dX7_commonDivisor__0 rfl (lv_at hl 0 rfl) ?_
  refine lv_lstore (lv' := [(4, .long (lN a)), (0, .long (lN a)), (2, .long (lN b))]) hx hb dX7_commonDivisor__1 hl (by decide) rfl (fun ls hl => ?_)
  refine lv_lload_n hx hb dX7_commonDivisor__3 rfl (lv_at hl 2 rfl) ?_
  refine lv_lstore (lv' := [(6, .long (lN b)), (4, .long (lN a)), (0, .long (lN a)), (2, .long (lN b))]) hx hb dX7_commonDivisor__4 hl (by decide) rfl (fun ls hl => ?_)
  refine lv_iconst (v := nI 0) hx hb dX7_commonDivisor__6 (by decide) ?_
  refine lv_istore (lv' := [(8, .int (nI 0)), (6, .long (lN b)), (4, .long (lN a)), (0, .long (lN a)), (2, .long (lN b))]) hx hb dX7_commonDivisor__7 hl (by decide) rfl (fun ls hl => ?_)
  refine kn_loopR (α := Nat × Nat) (100) (fun i z ls => (i ≤ 100) ∧ (Nat.gcd z.1 z.2 = Nat.gcd a b) ∧ (gcI a b i z.1 z.2) ∧ lv_has ls 11 [(0, .long (lN a)), (2, .long (lN b)), (4, .long (lN z.1)), (6, .long (lN z.2)), (8, .int (nI i))]) (0) ((a, b)) ⟨(by decide), rfl, gcI_0 a b, lv_sub hl [3, 4, 2, 1, 0] rfl⟩ (fun i z ls hI ih9 => ?_)
  obtain ⟨hi, hg, hG, hl⟩ := hI
  have hX := gcI_x ha hG
  have hY := gcI_y hbb hG
  refine lv_iload hx hb dX7_commonDivisor__9 (lv_at hl 4 rfl) ?_
  refine lv_bipush (v := nI 100) hx hb dX7_commonDivisor__11 (by decide) ?_
  refine kt_icmp_ge (tgt := 44) hx hb dX7_commonDivisor__13 (by decide) (nI_toInt (by omega)) (nI_toInt (by decide)) (fun c13 => ?_) (fun c13 => ?_)
  · skip
    refine lv_lload hx hb dX7_commonDivisor__44 (lv_at hl 2 rfl) ?_
    exact ro_rl hx hb hr hlk dX7_commonDivisor__46 (by have e := gcI_end (show gcI a b 100 z.1 z.2 by rw [show 100 = i by omega]; exact hG); rw [← hg, e, Nat.gcd_zero_right])
  · skip
    refine lv_lload hx hb dX7_commonDivisor__16 (lv_at hl 3 rfl) ?_
    refine lv_lconst (v := lN 0) hx hb dX7_commonDivisor__18 (by decide) ?_
    refine kt_lcmp_eq (tgt := 44) hx hb dX7_commonDivisor__19 dX7_commonDivisor__20 (by decide) (pk_lT (by omega)) (pk_lT (by decide)) (fun c19 => ?_) (fun c19 => ?_)
    · skip
      refine lv_lload hx hb dX7_commonDivisor__44 (lv_at hl 2 rfl) ?_
      exact ro_rl hx hb hr hlk dX7_commonDivisor__46 (by rw [← hg, show z.2 = 0 by omega, Nat.gcd_zero_right])
    · skip
      refine lv_lload hx hb dX7_commonDivisor__23 (lv_at hl 2 rfl) ?_
      refine lv_lload hx hb dX7_commonDivisor__25 (lv_at hl 3 rfl) ?_
      refine kn_lrem hx hb dX7_commonDivisor__27 (by omega) (by omega) (by omega) ?_
      refine lv_lstore (lv' := [(9, .long (lN (z.1 % z.2))), (0, .long (lN a)), (2, .long (lN b)), (4, .long (lN z.1)), (6, .long (lN z.2)), (8, .int (nI i))]) hx hb dX7_commonDivisor__28 hl (by decide) rfl (fun ls hl => ?_)
      refine lv_lload hx hb dX7_commonDivisor__30 (lv_at hl 4 rfl) ?_
      refine lv_lstore (lv' := [(4, .long (lN z.2)), (9, .long (lN (z.1 % z.2))), (0, .long (lN a)), (2, .long (lN b)), (6, .long (lN z.2)), (8, .int (nI i))]) hx hb dX7_commonDivisor__32 hl (by decide) rfl (fun ls hl => ?_)
      refine lv_lload hx hb dX7_commonDivisor__34 (lv_at hl 1 rfl) ?_
      refine lv_lstore (lv' := [(6, .long (lN (z.1 % z.2))), (4, .long (lN z.2)), (9, .long (lN (z.1 % z.2))), (0, .long (lN a)), (2, .long (lN b)), (8, .int (nI i))]) hx hb dX7_commonDivisor__36 hl (by decide) rfl (fun ls hl => ?_)
      refine kn_iinc (k := 5) (x := i) (d := 1) (lv' := [(8, .int (nI (i + 1))), (6, .long (lN (z.1 % z.2))), (4, .long (lN z.2)), (9, .long (lN (z.1 % z.2))), (0, .long (lN a)), (2, .long (lN b))]) hx hb dX7_commonDivisor__38 hl rfl (by decide) rfl (fun ls hl => ?_)
      refine lv_goto (tgt := 9) hx hb dX7_commonDivisor__41 (by decide) ?_
      exact ih9 ((z.2, z.1 % z.2)) _ (by omega) ⟨(by omega), (gcd_next _ _).symm.trans hg, gcI_next hbb (by omega) hG, lv_sub hl [4, 5, 2, 1, 0] rfl⟩
set_option maxHeartbeats 4000000 in
set_option maxRecDepth 100000 in
theorem c_X7_commonDivisor (l : Launch) (D : va_G) (cy : Nat → ClassId) (ev : kz_V) (a : Nat) (v : Nat → Nat) (hv : ∀ i, i < 4 → v i < 2 ^ 36) : Met l yX7_commonDivisor (.code yX7_commonDivisor cX7_commonDivisor 4 (some .long) :: WB) { frames := 1, cells := 0, slots := 0, locals := 30 } (ro_Pc D cy ev [.ref a] [zJ cy a 4 (fun i9 => lN (v i9))]) (vp_Sl (fun r => r = lN (gcs v 4))) 0 0 (fun _ => False) := by
  refine Met.ofW (cc := cX7_commonDivisor) (maxL := 4) (ret := (some .long)) (by decide) rfl ?_
  intro p e s m args below meth c s₁ B hml hv
  obtain ⟨rfl, hP, hK, hE⟩ := hv
  have hx := B.exec
  have hb := B.bytes
  have hr := B.returns
  have hlk := B.notSynchronized
  have hts : ∀ w ∈ WB, w.before _ s = true := fun w h => atoms_spec B.pre w (List.mem_cons_of_mem _ h)
  have hown : s.vm.findClass RX7 = some m.cls := findClass_of_methodNamed B.named
  have hl := lv_entry ([.ref a]) (n := 4) (Nat.le_of_ble_eq_true rfl)
  rw [lg_entry_eq]
  generalize (lg_sl ([.ref a]) ++ List.replicate (4 - (lg_sl ([.ref a])).length) Slot.unset).toArray = ls at hl ⊢
  have hl : lv_has ls 4 [(0, .ref a)] := hl
  refine lv_lconst (v := lN 0) hx hb dX7_commonDivisor_0 (by decide) ?_
  refine lv_lstore_n (lv' := [(1, .long (lN 0)), (0, .ref a)]) hx hb dX7_commonDivisor_1 rfl hl (by decide) rfl (fun ls hl => ?_)
  refine lv_iconst (v := nI 0) hx hb dX7_commonDivisor_2 (by decide) ?_
  refine lv_istore_n (lv' := [(3, .int (nI 0)), (1, .long (lN 0)), (0, .ref a)]) hx hb dX7_commonDivisor_3 rfl hl (by decide) rfl (fun ls hl => ?_)
  refine kn_loopR (α := Unit) (4) (fun i _ ls => (i ≤ 4) ∧ lv_has ls 4 [(0, .ref a), (1, .long (lN (gcs v i))), (3, .int (nI i))]) (0) (()) ⟨(by decide), lv_sub hl [2, 1, 0] rfl⟩ (fun i _ ls hI ih4 => ?_)
  obtain ⟨hi, hl⟩ := hI
  have hgb : gcs v i < 2 ^ 36 := gcs_lt (by decide) i (fun j hj => hv j (by omega))
  refine lv_iload_n hx hb dX7_commonDivisor_4 rfl (lv_at hl 2 rfl) ?_
  refine lv_iconst (v := nI 4) hx hb dX7_commonDivisor_5 (by decide) ?_
  refine kt_icmp_ge (tgt := 23) hx hb dX7_commonDivisor_6 (by decide) (nI_toInt (by omega)) (nI_toInt (by decide)) (fun c6 => ?_) (fun c6 => ?_)
  · skip
    refine lv_lload_n hx hb dX7_commonDivisor_23 rfl (lv_at hl 1 rfl) ?_
    exact ro_rl hx hb hr hlk dX7_commonDivisor_24 (by rw [show i = 4 by omega])
  · skip
    refine lv_lload_n hx hb dX7_commonDivisor_9 rfl (lv_at hl 1 rfl) ?_
    refine lv_aload_n hx hb dX7_commonDivisor_10 rfl (lv_at hl 0 rfl) ?_
    refine lv_iload_n hx hb dX7_commonDivisor_11 rfl (lv_at hl 2 rfl) ?_
    refine kn_lald (v := lN (v i)) hx hb hK hP 0 rfl (by omega) (by decide) rfl dX7_commonDivisor_12 ?_
    have hbi := hv i (by omega)
    refine ro_Sl (As := [.long (lN (gcs v i)), .long (lN (v i))]) (rest := []) (v := lN (Nat.gcd (gcs v i) (v i))) ⟨hx, hb, hml, hown, hts⟩ (c_X7_commonDivisor_ l D cy ev (gcs v i) (v i) (by omega) (by omega)) (kz_cwS 2 hts wm_462 wm_460 wm_461 wm_2 rfl rfl (by decide +kernel) ⟨Nat.le_of_ble_eq_true rfl, Nat.le_of_ble_eq_true rfl⟩) hK hE (fun k q h => by simp at h) rfl hl.1 rfl (Nat.le_of_ble_eq_true rfl) dX7_commonDivisor_13 ⟨Nat.le_of_ble_eq_true rfl, Nat.le_of_ble_eq_true rfl⟩ ?_
    refine lv_lstore_n (lv' := [(1, .long (lN (Nat.gcd (gcs v i) (v i)))), (0, .ref a), (3, .int (nI i))]) hx hb dX7_commonDivisor_16 rfl hl (by decide) rfl (fun ls hl => ?_)
    refine kn_iinc (k := 2) (x := i) (d := 1) (lv' := [(3, .int (nI (i + 1))), (1, .long (lN (Nat.gcd (gcs v i) (v i)))), (0, .ref a)]) hx hb dX7_commonDivisor_17 hl rfl (by decide) rfl (fun ls hl => ?_)
    refine lv_goto (tgt := 4) hx hb dX7_commonDivisor_20 (by decide) ?_
    exact ih4 (()) _ (by omega) ⟨(by omega), lv_sub hl [2, 1, 0] rfl⟩
set_option maxHeartbeats 4000000 in
set_option maxRecDepth 100000 in
theorem c_X7_inLowestTerms (l : Launch) (D : va_G) (cy : Nat → ClassId) (ev : kz_V) (a b w : Nat) (ha : a < 2 ^ 62) (hb0 : 0 < b) (hbb : b < 2 ^ 36) (hw : w < 2 ^ 31) : Met l yX7_inLowestTerms (.code yX7_inLowestTerms cX7_inLowestTerms 7 (some .long) :: WB) { frames := 1, cells := 0, slots := 0, locals := 30 } (ro_Pc D cy ev [.long (lN a), .long (lN b), .int (nI w)] []) (vp_Sl (fun r => r = lN (lowT a b w))) 0 0 (fun _ => False) := by
  refine Met.ofW (cc := cX7_inLowestTerms) (maxL := 7) (ret := (some .long)) (by decide) rfl ?_
  intro p e s m args below meth c s₁ B hml hv
  obtain ⟨rfl, hP, hK, hE⟩ := hv
  have hx := B.exec
  have hb := B.bytes
  have hr := B.returns
  have hlk := B.notSynchronized
  have hts : ∀ w ∈ WB, w.before _ s = true := fun w h => atoms_spec B.pre w (List.mem_cons_of_mem _ h)
  have hown : s.vm.findClass RX7 = some m.cls := findClass_of_methodNamed B.named
  have hl := lv_entry ([.long (lN a), .long (lN b), .int (nI w)]) (n := 7) (Nat.le_of_ble_eq_true rfl)
  rw [lg_entry_eq]
  generalize (lg_sl ([.long (lN a), .long (lN b), .int (nI w)]) ++ List.replicate (7 - (lg_sl ([.long (lN a), .long (lN b), .int (nI w)])).length) Slot.unset).toArray = ls at hl ⊢
  have hl : lv_has ls 7 [(0, .long (lN a)), (2, .long (lN b)), (4, .int (nI w))] := hl
  refine lv_lload_n hx hb dX7_inLowestTerms_0 rfl (lv_at hl 0 rfl) ?_
  refine lv_lload_n hx hb dX7_inLowestTerms_1 rfl (lv_at hl 1 rfl) ?_
  refine ro_Sl (As := [.long (lN a), .long (lN b)]) (rest := []) (v := lN (Nat.gcd a b)) ⟨hx, hb, hml, hown, hts⟩ (c_X7_commonDivisor_ l D cy ev a b (by omega) (by omega)) (kz_cwS 2 hts wm_462 wm_460 wm_461 wm_2 rfl rfl (by decide +kernel) ⟨Nat.le_of_ble_eq_true rfl, Nat.le_of_ble_eq_true rfl⟩) hK hE (fun k q h => by simp at h) rfl hl.1 rfl (Nat.le_of_ble_eq_true rfl) dX7_inLowestTerms_2 ⟨Nat.le_of_ble_eq_true rfl, Nat.le_of_ble_eq_true rfl⟩ ?_
  have hg0 : 0 < Nat.gcd a b := Nat.gcd_pos_of_pos_right a hb0
  have hg1 : Nat.gcd a b ≤ b := Nat.gcd_le_right a hb0
  refine lv_lstore (lv' := [(5, .long (lN (Nat.gcd a b))), (0, .long (lN a)), (2, .long (lN b)), (4, .int (nI w))]) hx hb dX7_inLowestTerms_5 hl (by decide) rfl (fun ls hl => ?_)
  refine lv_lload hx hb dX7_inLowestTerms_7 (lv_at hl 0 rfl) ?_
  refine lv_lconst (v := lN 0) hx hb dX7_inLowestTerms_9 (by decide) ?_
  refine kt_lcmp_gt (tgt := 16) hx hb dX7_inLowestTerms_10 dX7_inLowestTerms_11 (by decide) (pk_lT (by omega)) (pk_lT (by decide)) (fun c10 => ?_) (fun c10 => absurd c10 (by omega))
  refine lv_iload hx hb dX7_inLowestTerms_16 (lv_at hl 3 rfl) ?_
  refine kt_if_ne (tgt := 25) hx hb dX7_inLowestTerms_18 (by decide) (nI_toInt (by omega)) (fun c18 => ?_) (fun c18 => ?_)
  · skip
    refine lv_lload_n hx hb dX7_inLowestTerms_25 rfl (lv_at hl 2 rfl) ?_
    refine lv_lload hx hb dX7_inLowestTerms_26 (lv_at hl 0 rfl) ?_
    refine kn_ldiv hx hb dX7_inLowestTerms_28 (by omega) (by omega) (by omega) ?_
    exact ro_rl hx hb hr hlk dX7_inLowestTerms_29 (by unfold lowT; rw [if_neg (by omega)])
  · skip
    refine lv_lload_n hx hb dX7_inLowestTerms_21 rfl (lv_at hl 1 rfl) ?_
    refine lv_goto (tgt := 26) hx hb dX7_inLowestTerms_22 (by decide) ?_
    refine lv_lload hx hb dX7_inLowestTerms_26 (lv_at hl 0 rfl) ?_
    refine kn_ldiv hx hb dX7_inLowestTerms_28 (by omega) (by omega) (by omega) ?_
    exact ro_rl hx hb hr hlk dX7_inLowestTerms_29 (by unfold lowT; rw [if_pos (by omega)])
set_option maxHeartbeats 4000000 in
set_option maxRecDepth 100000 in
theorem c_X7_nextSeed (l : Launch) (D : va_G) (cy : Nat → ClassId) (ev : kz_V) (x : Nat) (hxs : x < 2147483648) : Met l yX7_nextSeed (.code yX7_nextSeed cX7_nextSeed 2 (some .long) :: WB) { frames := 0, cells := 0, slots := 0, locals := 0 } (ro_Pc D cy ev [.long (lN x)] []) (vp_Sl (fun r => r = lN (nxs x))) 0 0 (fun _ => False) := by
  refine Met.ofW (cc := cX7_nextSeed) (maxL := 2) (ret := (some .long)) (by decide) rfl ?_
  intro p e s m args below meth c s₁ B hml hv
  obtain ⟨rfl, hP, hK, hE⟩ := hv
  have hx := B.exec
  have hb := B.bytes
  have hr := B.returns
  have hlk := B.notSynchronized
  have hts : ∀ w ∈ WB, w.before _ s = true := fun w h => atoms_spec B.pre w (List.mem_cons_of_mem _ h)
  have hown : s.vm.findClass RX7 = some m.cls := findClass_of_methodNamed B.named
  have hl := lv_entry ([.long (lN x)]) (n := 2) (Nat.le_of_ble_eq_true rfl)
  rw [lg_entry_eq]
  generalize (lg_sl ([.long (lN x)]) ++ List.replicate (2 - (lg_sl ([.long (lN x)])).length) Slot.unset).toArray = ls at hl ⊢
  have hl : lv_has ls 2 [(0, .long (lN x))] := hl
  refine lv_ldc2 (v := lN 1103515245) hx hb hown (hts _ wm_649) dX7_nextSeed_0 ?_
  refine lv_lload_n hx hb dX7_nextSeed_3 rfl (lv_at hl 0 rfl) ?_
  refine kn_lmul hx hb dX7_nextSeed_4 ?_
  refine lv_ldc2 (v := lN 12345) hx hb hown (hts _ wm_650) dX7_nextSeed_5 ?_
  refine kn_ladd hx hb dX7_nextSeed_8 ?_
  refine lv_ldc2 (v := lN 2147483648) hx hb hown (hts _ wm_651) dX7_nextSeed_9 ?_
  refine kn_lrem hx hb dX7_nextSeed_12 (by omega) (by omega) (by omega) ?_
  exact ro_rl hx hb hr hlk dX7_nextSeed_13 (rfl)
set_option maxHeartbeats 4000000 in
set_option maxRecDepth 100000 in
theorem c_X7_draw (l : Launch) (D : va_G) (cy : Nat → ClassId) (ev : kz_V) (x t : Nat) (hxs : x < 2147483648) (h0 : 0 < t) (ht : t < 2 ^ 31) : Met l yX7_draw (.code yX7_draw cX7_draw 3 (some .int) :: WB) { frames := 0, cells := 0, slots := 0, locals := 0 } (ro_Pc D cy ev [.long (lN x), .int (nI t)] []) (vp_Si (fun r => r = nI (x / 65536 % t))) 0 0 (fun _ => False) := by
  refine Met.ofW (cc := cX7_draw) (maxL := 3) (ret := (some .int)) (by decide) rfl ?_
  intro p e s m args below meth c s₁ B hml hv
  obtain ⟨rfl, hP, hK, hE⟩ := hv
  have hx := B.exec
  have hb := B.bytes
  have hr := B.returns
  have hlk := B.notSynchronized
  have hts : ∀ w ∈ WB, w.before _ s = true := fun w h => atoms_spec B.pre w (List.mem_cons_of_mem _ h)
  have hown : s.vm.findClass RX7 = some m.cls := findClass_of_methodNamed B.named
  have hl := lv_entry ([.long (lN x), .int (nI t)]) (n := 3) (Nat.le_of_ble_eq_true rfl)
  rw [lg_entry_eq]
  generalize (lg_sl ([.long (lN x), .int (nI t)]) ++ List.replicate (3 - (lg_sl ([.long (lN x), .int (nI t)])).length) Slot.unset).toArray = ls at hl ⊢
  have hl : lv_has ls 3 [(0, .long (lN x)), (2, .int (nI t))] := hl
  refine lv_iload_n hx hb dX7_draw_0 rfl (lv_at hl 1 rfl) ?_
  refine kt_if_gt (tgt := 8) hx hb dX7_draw_1 (by decide) (nI_toInt (by omega)) (fun c1 => ?_) (fun c1 => absurd c1 (by omega))
  refine lv_lload_n hx hb dX7_draw_8 rfl (lv_at hl 0 rfl) ?_
  refine lv_ldc2 (v := lN 65536) hx hb hown (hts _ wm_655) dX7_draw_9 ?_
  refine kn_ldiv hx hb dX7_draw_12 (by omega) (by omega) (by omega) ?_
  refine lv_iload_n hx hb dX7_draw_13 rfl (lv_at hl 1 rfl) ?_
  refine kn_i2l hx hb dX7_draw_14 (by omega) ?_
  refine kn_lrem hx hb dX7_draw_15 (by omega) (by omega) (by omega) ?_
  refine kn_l2i hx hb dX7_draw_16 ?_
  exact ro_ri hx hb hr hlk dX7_draw_17 (rfl)
set_option maxHeartbeats 4000000 in
set_option maxRecDepth 100000 in
theorem c_X7_fold (l : Launch) (D : va_G) (cy : Nat → ClassId) (ev : kz_V) (h v : Int64) : Met l yX7_fold (.code yX7_fold cX7_fold 4 (some .long) :: WB) { frames := 0, cells := 0, slots := 0, locals := 0 } (ro_Pc D cy ev [.long h, .long v] []) (vp_Sl (fun r => r = fo h v)) 0 0 (fun _ => False) := by
  refine Met.ofW (cc := cX7_fold) (maxL := 4) (ret := (some .long)) (by decide) rfl ?_
  intro p e s m args below meth c s₁ B hml hv
  obtain ⟨rfl, hP, hK, hE⟩ := hv
  have hx := B.exec
  have hb := B.bytes
  have hr := B.returns
  have hlk := B.notSynchronized
  have hts : ∀ w ∈ WB, w.before _ s = true := fun w h => atoms_spec B.pre w (List.mem_cons_of_mem _ h)
  have hown : s.vm.findClass RX7 = some m.cls := findClass_of_methodNamed B.named
  have hl := lv_entry ([.long h, .long v]) (n := 4) (Nat.le_of_ble_eq_true rfl)
  rw [lg_entry_eq]
  generalize (lg_sl ([.long h, .long v]) ++ List.replicate (4 - (lg_sl ([.long h, .long v])).length) Slot.unset).toArray = ls at hl ⊢
  have hl : lv_has ls 4 [(0, .long h), (2, .long v)] := hl
  refine lv_ldc2 (v := lN 31) hx hb hown (hts _ wm_728) dX7_fold_0 ?_
  refine lv_lload_n hx hb dX7_fold_3 rfl (lv_at hl 0 rfl) ?_
  refine lv_lmul hx hb dX7_fold_4 ?_
  refine lv_lload_n hx hb dX7_fold_5 rfl (lv_at hl 1 rfl) ?_
  refine lv_ladd hx hb dX7_fold_6 ?_
  exact ro_rl hx hb hr hlk dX7_fold_7 (rfl)
set_option maxHeartbeats 4000000 in
set_option maxRecDepth 100000 in
theorem c_X7_weightOfAll (l : Launch) (D : va_G) (cy : Nat → ClassId) (ev : kz_V) (ax : Nat → Nat) (g : Nat → Nat) (q : Nat → Nat → Nat) (bt : Nat → Nat → Int32) (rv : Nat → Nat → Nat) (pf : Nat → Option Nat) : Met l yX7_weightOfAll (.code yX7_weightOfAll cX7_weightOfAll 4 (some .long) :: WB) { frames := 0, cells := 0, slots := 0, locals := 0 } (ro_Pc D cy ev [.ref (ax 0)] [zO (ax 0) 7 [.ref (ax 1), .ref (ax 3), .ref (ax 4), .ref (ax 10), .ref (ax 16), .int (nI (g 0)), .int (nI (g 4)), .int (nI (g 6)), .int (nI (g 5))], zO (ax 4) 4 [.ref (ax 5), .ref (ax 6), .ref (ax 7), .ref (ax 8), .ref (ax 9), .int (nI (g 2)), .int (nI (g 1))], zJ cy (ax 6) 4 (fun i9 => lN ((q 4) i9))]) (vp_Sl (fun r => r = lN (sm (q 4) 4))) 0 0 (fun _ => False) := by
  refine Met.ofW (cc := cX7_weightOfAll) (maxL := 4) (ret := (some .long)) (by decide) rfl ?_
  intro p e s m args below meth c s₁ B hml hv
  obtain ⟨rfl, hP, hK, hE⟩ := hv
  have hx := B.exec
  have hb := B.bytes
  have hr := B.returns
  have hlk := B.notSynchronized
  have hts : ∀ w ∈ WB, w.before _ s = true := fun w h => atoms_spec B.pre w (List.mem_cons_of_mem _ h)
  have hown : s.vm.findClass RX7 = some m.cls := findClass_of_methodNamed B.named
  have hl := lv_entry ([.ref (ax 0)]) (n := 4) (Nat.le_of_ble_eq_true rfl)
  rw [lg_entry_eq]
  generalize (lg_sl ([.ref (ax 0)]) ++ List.replicate (4 - (lg_sl ([.ref (ax 0)])).length) Slot.unset).toArray = ls at hl ⊢
  have hl : lv_has ls 4 [(0, .ref (ax 0))] := hl
  refine lv_lconst (v := lN 0) hx hb dX7_weightOfAll_0 (by decide) ?_
  refine lv_lstore_n (lv' := [(1, .long (lN 0)), (0, .ref (ax 0))]) hx hb dX7_weightOfAll_1 rfl hl (by decide) rfl (fun ls hl => ?_)
  refine lv_iconst (v := nI 0) hx hb dX7_weightOfAll_2 (by decide) ?_
  refine lv_istore_n (lv' := [(3, .int (nI 0)), (1, .long (lN 0)), (0, .ref (ax 0))]) hx hb dX7_weightOfAll_3 rfl hl (by decide) rfl (fun ls hl => ?_)
  refine kn_loopR (α := Unit) (4) (fun i _ ls => (i ≤ 4) ∧ lv_has ls 4 [(0, .ref (ax 0)), (1, .long (lN (sm (q 4) i))), (3, .int (nI i))]) (0) (()) ⟨(by decide), lv_sub hl [2, 1, 0] rfl⟩ (fun i _ ls hI ih4 => ?_)
  obtain ⟨hi, hl⟩ := hI
  refine lv_iload_n hx hb dX7_weightOfAll_4 rfl (lv_at hl 2 rfl) ?_
  refine lv_iconst (v := nI 4) hx hb dX7_weightOfAll_5 (by decide) ?_
  refine kt_icmp_ge (tgt := 27) hx hb dX7_weightOfAll_6 (by decide) (nI_toInt (by omega)) (nI_toInt (by decide)) (fun c6 => ?_) (fun c6 => ?_)
  · skip
    refine lv_lload_n hx hb dX7_weightOfAll_27 rfl (lv_at hl 1 rfl) ?_
    exact ro_rl hx hb hr hlk dX7_weightOfAll_28 (by rw [show i = 4 by omega])
  · skip
    refine lv_lload_n hx hb dX7_weightOfAll_9 rfl (lv_at hl 1 rfl) ?_
    refine lv_aload_n hx hb dX7_weightOfAll_10 rfl (lv_at hl 0 rfl) ?_
    refine va_get (ci := 7) (C := RX7) (T := TX7) (N := 9) hx hb hts inX7 hown hK hP 0 rfl rfl 2 (by decide) (hts _ wm_21) (fun _ h9 => h9) rfl dX7_weightOfAll_11 ?_
    refine va_get (ci := 4) (C := RX4) (T := TX4) (N := 7) hx hb hts inX4 hown hK hP 1 rfl rfl 1 (by decide) (hts _ wm_240) (fun _ h9 => h9) rfl dX7_weightOfAll_14 ?_
    refine lv_iload_n hx hb dX7_weightOfAll_17 rfl (lv_at hl 2 rfl) ?_
    refine kn_lald (v := lN ((q 4) i)) hx hb hK hP 2 rfl (by omega) (by decide) rfl dX7_weightOfAll_18 ?_
    refine kn_ladd hx hb dX7_weightOfAll_19 ?_
    refine lv_lstore_n (lv' := [(1, .long (lN ((sm (q 4) i) + ((q 4) i)))), (0, .ref (ax 0)), (3, .int (nI i))]) hx hb dX7_weightOfAll_20 rfl hl (by decide) rfl (fun ls hl => ?_)
    refine kn_iinc (k := 2) (x := i) (d := 1) (lv' := [(3, .int (nI (i + 1))), (1, .long (lN ((sm (q 4) i) + ((q 4) i)))), (0, .ref (ax 0))]) hx hb dX7_weightOfAll_21 hl rfl (by decide) rfl (fun ls hl => ?_)
    refine lv_goto (tgt := 4) hx hb dX7_weightOfAll_24 (by decide) ?_
    exact ih4 (()) _ (by omega) ⟨(by omega), lv_sub hl [2, 1, 0] rfl⟩
set_option maxHeartbeats 4000000 in
set_option maxRecDepth 100000 in
theorem c_X7_personAt_s (l : Launch) (D : va_G) (cy : Nat → ClassId) (ev : kz_V) (ax : Nat → Nat) (g : Nat → Nat) (q : Nat → Nat → Nat) (bt : Nat → Nat → Int32) (rv : Nat → Nat → Nat) (pf : Nat → Option Nat) (pa : Nat → Nat) (j : Nat) (hj : j < g 0) (hn : g 0 ≤ 4) (hpf : pf j = some (pa j)) : Met l yX7_personAt (.code yX7_personAt cX7_personAt 2 (some (.object "DryLoaf$Person")) :: WB) { frames := 0, cells := 0, slots := 0, locals := 0 } (ro_Pc D cy ev [.ref (ax 0), .int (nI j)] [zO (ax 0) 7 [.ref (ax 1), .ref (ax 3), .ref (ax 4), .ref (ax 10), .ref (ax 16), .int (nI (g 0)), .int (nI (g 4)), .int (nI (g 6)), .int (nI (g 5))], zQ cy (ax 3) 4 pf]) (va_Sq (fun r => r = some (pa j))) 0 0 (fun _ => False) := by
  refine Met.ofW (cc := cX7_personAt) (maxL := 2) (ret := (some (.object "DryLoaf$Person"))) (by decide) rfl ?_
  intro p e s m args below meth c s₁ B hml hv
  obtain ⟨rfl, hP, hK, hE⟩ := hv
  have hx := B.exec
  have hb := B.bytes
  have hr := B.returns
  have hlk := B.notSynchronized
  have hts : ∀ w ∈ WB, w.before _ s = true := fun w h => atoms_spec B.pre w (List.mem_cons_of_mem _ h)
  have hown : s.vm.findClass RX7 = some m.cls := findClass_of_methodNamed B.named
  have hl := lv_entry ([.ref (ax 0), .int (nI j)]) (n := 2) (Nat.le_of_ble_eq_true rfl)
  rw [lg_entry_eq]
  generalize (lg_sl ([.ref (ax 0), .int (nI j)]) ++ List.replicate (2 - (lg_sl ([.ref (ax 0), .int (nI j)])).length) Slot.unset).toArray = ls at hl ⊢
  have hl : lv_has ls 2 [(0, .ref (ax 0)), (1, .int (nI j))] := hl
  refine lv_iload_n hx hb dX7_personAt_0 rfl (lv_at hl 1 rfl) ?_
  refine kt_if_lt (tgt := 17) hx hb dX7_personAt_1 (by decide) (nI_toInt (by omega)) (fun c1 => absurd c1 (by omega)) (fun c1 => ?_)
  refine lv_iload_n hx hb dX7_personAt_4 rfl (lv_at hl 1 rfl) ?_
  refine lv_aload_n hx hb dX7_personAt_5 rfl (lv_at hl 0 rfl) ?_
  refine va_get (ci := 7) (C := RX7) (T := TX7) (N := 9) hx hb hts inX7 hown hK hP 0 rfl rfl 5 (by decide) (hts _ wm_239) (fun _ h9 => h9) rfl dX7_personAt_6 ?_
  refine kt_icmp_ge (tgt := 17) hx hb dX7_personAt_9 (by decide) (nI_toInt (by omega)) (nI_toInt (by omega)) (fun c9 => absurd c9 (by omega)) (fun c9 => ?_)
  refine lv_iload_n hx hb dX7_personAt_12 rfl (lv_at hl 1 rfl) ?_
  refine lv_iconst (v := nI 4) hx hb dX7_personAt_13 (by decide) ?_
  refine kt_icmp_lt (tgt := 19) hx hb dX7_personAt_14 (by decide) (nI_toInt (by omega)) (nI_toInt (by decide)) (fun c14 => ?_) (fun c14 => absurd c14 (by omega))
  refine lv_aload_n hx hb dX7_personAt_19 rfl (lv_at hl 0 rfl) ?_
  refine va_get (ci := 7) (C := RX7) (T := TX7) (N := 9) hx hb hts inX7 hown hK hP 0 rfl rfl 1 (by decide) (hts _ wm_17) (fun _ h9 => h9) rfl dX7_personAt_20 ?_
  refine lv_iload_n hx hb dX7_personAt_23 rfl (lv_at hl 1 rfl) ?_
  refine kn_qald (v := some (pa j)) hx hb hK hP 1 rfl (by omega) (by decide) hpf dX7_personAt_24 ?_
  refine kn_as (st' := .ref (pa j) :: []) rfl ?_
  exact ro_rq (v := some (pa j)) hx hb hr hlk dX7_personAt_25 (rfl)
set_option maxHeartbeats 4000000 in
set_option maxRecDepth 100000 in
theorem c_X7_personAt_n (l : Launch) (D : va_G) (cy : Nat → ClassId) (ev : kz_V) (ax : Nat → Nat) (g : Nat → Nat) (q : Nat → Nat → Nat) (bt : Nat → Nat → Int32) (rv : Nat → Nat → Nat) (pf : Nat → Option Nat) (x : Int32) (hx0 : ix (g 0) x = none) (hn : g 0 ≤ 4) : Met l yX7_personAt (.code yX7_personAt cX7_personAt 2 (some (.object "DryLoaf$Person")) :: WB) { frames := 0, cells := 0, slots := 0, locals := 0 } (ro_Pc D cy ev [.ref (ax 0), .int x] [zO (ax 0) 7 [.ref (ax 1), .ref (ax 3), .ref (ax 4), .ref (ax 10), .ref (ax 16), .int (nI (g 0)), .int (nI (g 4)), .int (nI (g 6)), .int (nI (g 5))], zQ cy (ax 3) 4 pf]) (va_Sq (fun r => r = none)) 0 0 (fun _ => False) := by
  refine Met.ofW (cc := cX7_personAt) (maxL := 2) (ret := (some (.object "DryLoaf$Person"))) (by decide) rfl ?_
  intro p e s m args below meth c s₁ B hml hv
  obtain ⟨rfl, hP, hK, hE⟩ := hv
  have hx := B.exec
  have hb := B.bytes
  have hr := B.returns
  have hlk := B.notSynchronized
  have hts : ∀ w ∈ WB, w.before _ s = true := fun w h => atoms_spec B.pre w (List.mem_cons_of_mem _ h)
  have hown : s.vm.findClass RX7 = some m.cls := findClass_of_methodNamed B.named
  have hl := lv_entry ([.ref (ax 0), .int x]) (n := 2) (Nat.le_of_ble_eq_true rfl)
  rw [lg_entry_eq]
  generalize (lg_sl ([.ref (ax 0), .int x]) ++ List.replicate (2 - (lg_sl ([.ref (ax 0), .int x])).length) Slot.unset).toArray = ls at hl ⊢
  have hl : lv_has ls 2 [(0, .ref (ax 0)), (1, .int x)] := hl
  have hxn := ix_none hx0
  refine lv_iload_n hx hb dX7_personAt_0 rfl (lv_at hl 1 rfl) ?_
  refine kt_if_lt (tgt := 17) hx hb dX7_personAt_1 (by decide) rfl (fun c1 => ?_) (fun c1 => ?_)
  · skip
    refine lv_null hx hb dX7_personAt_17 ?_
    exact ro_rq (v := none) hx hb hr hlk dX7_personAt_18 (rfl)
  · skip
    refine lv_iload_n hx hb dX7_personAt_4 rfl (lv_at hl 1 rfl) ?_
    refine lv_aload_n hx hb dX7_personAt_5 rfl (lv_at hl 0 rfl) ?_
    refine va_get (ci := 7) (C := RX7) (T := TX7) (N := 9) hx hb hts inX7 hown hK hP 0 rfl rfl 5 (by decide) (hts _ wm_239) (fun _ h9 => h9) rfl dX7_personAt_6 ?_
    refine kt_icmp_ge (tgt := 17) hx hb dX7_personAt_9 (by decide) rfl (nI_toInt (by omega)) (fun c9 => ?_) (fun c9 => absurd c9 (by omega))
    refine lv_null hx hb dX7_personAt_17 ?_
    exact ro_rq (v := none) hx hb hr hlk dX7_personAt_18 (rfl)
