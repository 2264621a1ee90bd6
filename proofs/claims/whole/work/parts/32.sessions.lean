set_option maxHeartbeats 4000000 in
set_option maxRecDepth 100000 in
theorem c_X7_sessions (l : Launch) (D : va_G) (cy : Nat → ClassId) (ev : kz_V) (ax : Nat → Nat) (g : Nat → Nat) (q : Nat → Nat → Nat) (bt : Nat → Nat → Int32) (rv : Nat → Nat → Nat) (pf : Nat → Option Nat) (pa : Nat → Nat) (pz : va_W) (hI : XI g q) (hZ : XP g q pf pa pz) (x t sd y : Int32) : Met l yX7_sessions (.code yX7_sessions cX7_sessions 12 (some .int) :: WB) { frames := 4, cells := 0, slots := 0, locals := 89 } (ro_Pc D cy ev [.ref (ax 0), .int x, .int t, .int sd, .int y] ([zO (ax 0) 7 [.ref (ax 1), .ref (ax 3), .ref (ax 4), .ref (ax 10), .ref (ax 16), .int (nI (g 0)), .int (nI (g 4)), .int (nI (g 6)), .int (nI (g 5))], zO (ax 1) 1 [.ref (ax 2), .int (nI (g 3))], zI cy (ax 2) 18 (fun i9 => nI ((q 7) i9)), zQ cy (ax 3) 4 pf, zO (ax 4) 4 [.ref (ax 5), .ref (ax 6), .ref (ax 7), .ref (ax 8), .ref (ax 9), .int (nI (g 2)), .int (nI (g 1))], zI cy (ax 5) 4 (fun i9 => nI ((q 3) i9)), zJ cy (ax 6) 4 (fun i9 => lN ((q 4) i9)), zI cy (ax 7) 4 (fun i9 => nI ((q 5) i9)), zI cy (ax 8) 4 (fun i9 => nI ((q 6) i9)), zI cy (ax 9) 4 (bt 0), zO (ax 10) 4 [.ref (ax 11), .ref (ax 12), .ref (ax 13), .ref (ax 14), .ref (ax 15), .int (nI (g 8)), .int (nI (g 7))], zI cy (ax 11) 4 (fun i9 => nI ((q 8) i9)), zJ cy (ax 12) 4 (fun i9 => lN ((q 9) i9)), zI cy (ax 13) 4 (fun i9 => nI ((q 10) i9)), zI cy (ax 14) 4 (fun i9 => nI ((q 11) i9)), zI cy (ax 15) 4 (bt 1), zG cy (ax 16) 4 (fun i => if i < 4 then some (ax (17 + i)) else none), zJ cy (ax 17) 4 (fun i9 => lN ((rv 0) i9)), zJ cy (ax 18) 4 (fun i9 => lN ((rv 1) i9)), zJ cy (ax 19) 4 (fun i9 => lN ((rv 2) i9)), zJ cy (ax 20) 4 (fun i9 => lN ((rv 3) i9))] ++ pz)) (vp_Si (fun r => r = F_sessions g q x t sd y)) 0 0 (fun _ => False) := by
  refine Met.ofW (cc := cX7_sessions) (maxL := 12) (ret := (some .int)) (by decide) rfl ?_
  intro p e s m args below meth c s₁ B hml hv
  obtain ⟨rfl, hP, hK, hE⟩ := hv
  have hx := B.exec
  have hb := B.bytes
  have hr := B.returns
  have hlk := B.notSynchronized
  have hts : ∀ w ∈ WB, w.before _ s = true := fun w h => atoms_spec B.pre w (List.mem_cons_of_mem _ h)
  have hown : s.vm.findClass RX7 = some m.cls := findClass_of_methodNamed B.named
  have hl := lv_entry ([.ref (ax 0), .int x, .int t, .int sd, .int y]) (n := 12) (Nat.le_of_ble_eq_true rfl)
  rw [lg_entry_eq]
  generalize (lg_sl ([.ref (ax 0), .int x, .int t, .int sd, .int y]) ++ List.replicate (12 - (lg_sl ([.ref (ax 0), .int x, .int t, .int sd, .int y])).length) Slot.unset).toArray = ls at hl ⊢
  have hl : lv_has ls 12 [(0, .ref (ax 0)), (1, .int x), (2, .int t), (3, .int sd), (4, .int y)] := hl
  have hn4 := hI.n
  have hn2 := hI.n2
  have hdry := hI.dry
  rcases hi_x : ix (g 0) x with _ | j
  · skip
    have hn_x := ix_none hi_x
    refine lv_aload_n hx hb dX7_sessions_0 rfl (lv_at hl 0 rfl) ?_
    refine lv_iload_n hx hb dX7_sessions_1 rfl (lv_at hl 1 rfl) ?_
    refine ro_Vq (As := [.int x]) (rest := []) (v := none) ⟨hx, hb, hml, hown, hts⟩ (c_X7_personAt_n l D cy ev ax g q bt rv pf x hi_x hI.n) (kz_cwV 1 hts wm_326 wm_323 wm_324 wm_325 wm_2 rfl rfl (by decide +kernel) ⟨Nat.le_of_ble_eq_true rfl, Nat.le_of_ble_eq_true rfl⟩) hK hE (hP.sub (ws' := [zO (ax 0) 7 [.ref (ax 1), .ref (ax 3), .ref (ax 4), .ref (ax 10), .ref (ax 16), .int (nI (g 0)), .int (nI (g 4)), .int (nI (g 6)), .int (nI (g 5))], zQ cy (ax 3) 4 pf]) [0, 3] rfl) (kz_recv 0 hK hP rfl rfl) rfl hl.1 rfl (Nat.le_of_ble_eq_true rfl) dX7_sessions_2 ⟨Nat.le_of_ble_eq_true rfl, Nat.le_of_ble_eq_true rfl⟩ ?_
    refine kn_as (st' := [.null]) rfl ?_
    refine lv_ifnonnullN hx hb dX7_sessions_5 ?_
    refine lv_bipush (v := (-101)) hx hb dX7_sessions_8 (by decide) ?_
    exact ro_ri hx hb hr hlk dX7_sessions_10 (by unfold F_sessions; rw [hi_x])
  · skip
    obtain ⟨hj, rfl⟩ := ix_some hi_x
    have hper := hI.per j hj
    have hbu9 := hI.bu j
    have hw6 := hI.w6 j
    rcases hi_t : ix (61) t with _ | k
    · skip
      have hn_t := ix_none hi_t
      refine lv_aload_n hx hb dX7_sessions_0 rfl (lv_at hl 0 rfl) ?_
      refine lv_iload_n hx hb dX7_sessions_1 rfl (lv_at hl 1 rfl) ?_
      refine ro_Vq (As := [.int (nI j)]) (rest := []) (v := some (pa j)) ⟨hx, hb, hml, hown, hts⟩ (c_X7_personAt_s l D cy ev ax g q bt rv pf pa j (by omega) hI.n (hZ j (by omega)).1) (kz_cwV 1 hts wm_326 wm_323 wm_324 wm_325 wm_2 rfl rfl (by decide +kernel) ⟨Nat.le_of_ble_eq_true rfl, Nat.le_of_ble_eq_true rfl⟩) hK hE (hP.sub (ws' := [zO (ax 0) 7 [.ref (ax 1), .ref (ax 3), .ref (ax 4), .ref (ax 10), .ref (ax 16), .int (nI (g 0)), .int (nI (g 4)), .int (nI (g 6)), .int (nI (g 5))], zQ cy (ax 3) 4 pf]) [0, 3] rfl) (kz_recv 0 hK hP rfl rfl) rfl hl.1 rfl (Nat.le_of_ble_eq_true rfl) dX7_sessions_2 ⟨Nat.le_of_ble_eq_true rfl, Nat.le_of_ble_eq_true rfl⟩ ?_
      refine kn_as (st' := [.ref (pa j)]) rfl ?_
      refine lv_ifnonnull (tgt := 11) hx hb dX7_sessions_5 (by decide) ?_
      refine lv_iload_n hx hb dX7_sessions_11 rfl (lv_at hl 2 rfl) ?_
      refine lv_iconst (v := nI 1) hx hb dX7_sessions_12 (by decide) ?_
      refine kt_icmp_lt (tgt := 37) hx hb dX7_sessions_13 (by decide) rfl (nI_toInt (by decide)) (fun c13 => ?_) (fun c13 => ?_)
      · skip
        refine lv_bipush (v := (-102)) hx hb dX7_sessions_37 (by decide) ?_
        exact ro_ri hx hb hr hlk dX7_sessions_39 (by unfold F_sessions; rw [hi_x, hi_t])
      · skip
        refine lv_iload_n hx hb dX7_sessions_16 rfl (lv_at hl 2 rfl) ?_
        refine lv_bipush (v := nI 60) hx hb dX7_sessions_17 (by decide) ?_
        refine kt_icmp_gt (tgt := 37) hx hb dX7_sessions_19 (by decide) rfl (nI_toInt (by decide)) (fun c19 => ?_) (fun c19 => absurd c19 (by omega))
        refine lv_bipush (v := (-102)) hx hb dX7_sessions_37 (by decide) ?_
        exact ro_ri hx hb hr hlk dX7_sessions_39 (by unfold F_sessions; rw [hi_x, hi_t])
    · skip
      obtain ⟨hk, rfl⟩ := ix_some hi_t
      rcases k with _ | k
      · skip
        refine lv_aload_n hx hb dX7_sessions_0 rfl (lv_at hl 0 rfl) ?_
        refine lv_iload_n hx hb dX7_sessions_1 rfl (lv_at hl 1 rfl) ?_
        refine ro_Vq (As := [.int (nI j)]) (rest := []) (v := some (pa j)) ⟨hx, hb, hml, hown, hts⟩ (c_X7_personAt_s l D cy ev ax g q bt rv pf pa j (by omega) hI.n (hZ j (by omega)).1) (kz_cwV 1 hts wm_326 wm_323 wm_324 wm_325 wm_2 rfl rfl (by decide +kernel) ⟨Nat.le_of_ble_eq_true rfl, Nat.le_of_ble_eq_true rfl⟩) hK hE (hP.sub (ws' := [zO (ax 0) 7 [.ref (ax 1), .ref (ax 3), .ref (ax 4), .ref (ax 10), .ref (ax 16), .int (nI (g 0)), .int (nI (g 4)), .int (nI (g 6)), .int (nI (g 5))], zQ cy (ax 3) 4 pf]) [0, 3] rfl) (kz_recv 0 hK hP rfl rfl) rfl hl.1 rfl (Nat.le_of_ble_eq_true rfl) dX7_sessions_2 ⟨Nat.le_of_ble_eq_true rfl, Nat.le_of_ble_eq_true rfl⟩ ?_
        refine kn_as (st' := [.ref (pa j)]) rfl ?_
        refine lv_ifnonnull (tgt := 11) hx hb dX7_sessions_5 (by decide) ?_
        refine lv_iload_n hx hb dX7_sessions_11 rfl (lv_at hl 2 rfl) ?_
        refine lv_iconst (v := nI 1) hx hb dX7_sessions_12 (by decide) ?_
        refine kt_icmp_lt (tgt := 37) hx hb dX7_sessions_13 (by decide) (nI_toInt (by decide)) (nI_toInt (by decide)) (fun c13 => ?_) (fun c13 => absurd c13 (by omega))
        refine lv_bipush (v := (-102)) hx hb dX7_sessions_37 (by decide) ?_
        exact ro_ri hx hb hr hlk dX7_sessions_39 (by unfold F_sessions; rw [hi_x, hi_t])
      · skip
        rcases hi_sd : ix (2147483648) sd with _ | d
        · skip
          have hn_sd := ix_none hi_sd
          have hs31 := Int32.toInt_lt sd
          refine lv_aload_n hx hb dX7_sessions_0 rfl (lv_at hl 0 rfl) ?_
          refine lv_iload_n hx hb dX7_sessions_1 rfl (lv_at hl 1 rfl) ?_
          refine ro_Vq (As := [.int (nI j)]) (rest := []) (v := some (pa j)) ⟨hx, hb, hml, hown, hts⟩ (c_X7_personAt_s l D cy ev ax g q bt rv pf pa j (by omega) hI.n (hZ j (by omega)).1) (kz_cwV 1 hts wm_326 wm_323 wm_324 wm_325 wm_2 rfl rfl (by decide +kernel) ⟨Nat.le_of_ble_eq_true rfl, Nat.le_of_ble_eq_true rfl⟩) hK hE (hP.sub (ws' := [zO (ax 0) 7 [.ref (ax 1), .ref (ax 3), .ref (ax 4), .ref (ax 10), .ref (ax 16), .int (nI (g 0)), .int (nI (g 4)), .int (nI (g 6)), .int (nI (g 5))], zQ cy (ax 3) 4 pf]) [0, 3] rfl) (kz_recv 0 hK hP rfl rfl) rfl hl.1 rfl (Nat.le_of_ble_eq_true rfl) dX7_sessions_2 ⟨Nat.le_of_ble_eq_true rfl, Nat.le_of_ble_eq_true rfl⟩ ?_
          refine kn_as (st' := [.ref (pa j)]) rfl ?_
          refine lv_ifnonnull (tgt := 11) hx hb dX7_sessions_5 (by decide) ?_
          refine lv_iload_n hx hb dX7_sessions_11 rfl (lv_at hl 2 rfl) ?_
          refine lv_iconst (v := nI 1) hx hb dX7_sessions_12 (by decide) ?_
          refine kt_icmp_lt (tgt := 37) hx hb dX7_sessions_13 (by decide) (nI_toInt (by omega)) (nI_toInt (by decide)) (fun c13 => absurd c13 (by omega)) (fun c13 => ?_)
          refine lv_iload_n hx hb dX7_sessions_16 rfl (lv_at hl 2 rfl) ?_
          refine lv_bipush (v := nI 60) hx hb dX7_sessions_17 (by decide) ?_
          refine kt_icmp_gt (tgt := 37) hx hb dX7_sessions_19 (by decide) (nI_toInt (by omega)) (nI_toInt (by decide)) (fun c19 => absurd c19 (by omega)) (fun c19 => ?_)
          refine lv_iload_n hx hb dX7_sessions_22 rfl (lv_at hl 3 rfl) ?_
          refine kt_if_lt (tgt := 37) hx hb dX7_sessions_23 (by decide) rfl (fun c23 => ?_) (fun c23 => absurd c23 (by omega))
          refine lv_bipush (v := (-102)) hx hb dX7_sessions_37 (by decide) ?_
          exact ro_ri hx hb hr hlk dX7_sessions_39 (by unfold F_sessions; rw [hi_x, hi_t]; dsimp only; rw [hi_sd])
        · skip
          obtain ⟨hd, rfl⟩ := ix_some hi_sd
          rcases hi_y : ix (3) y with _ | w
          · skip
            have hn_y := ix_none hi_y
            refine lv_aload_n hx hb dX7_sessions_0 rfl (lv_at hl 0 rfl) ?_
            refine lv_iload_n hx hb dX7_sessions_1 rfl (lv_at hl 1 rfl) ?_
            refine ro_Vq (As := [.int (nI j)]) (rest := []) (v := some (pa j)) ⟨hx, hb, hml, hown, hts⟩ (c_X7_personAt_s l D cy ev ax g q bt rv pf pa j (by omega) hI.n (hZ j (by omega)).1) (kz_cwV 1 hts wm_326 wm_323 wm_324 wm_325 wm_2 rfl rfl (by decide +kernel) ⟨Nat.le_of_ble_eq_true rfl, Nat.le_of_ble_eq_true rfl⟩) hK hE (hP.sub (ws' := [zO (ax 0) 7 [.ref (ax 1), .ref (ax 3), .ref (ax 4), .ref (ax 10), .ref (ax 16), .int (nI (g 0)), .int (nI (g 4)), .int (nI (g 6)), .int (nI (g 5))], zQ cy (ax 3) 4 pf]) [0, 3] rfl) (kz_recv 0 hK hP rfl rfl) rfl hl.1 rfl (Nat.le_of_ble_eq_true rfl) dX7_sessions_2 ⟨Nat.le_of_ble_eq_true rfl, Nat.le_of_ble_eq_true rfl⟩ ?_
            refine kn_as (st' := [.ref (pa j)]) rfl ?_
            refine lv_ifnonnull (tgt := 11) hx hb dX7_sessions_5 (by decide) ?_
            refine lv_iload_n hx hb dX7_sessions_11 rfl (lv_at hl 2 rfl) ?_
            refine lv_iconst (v := nI 1) hx hb dX7_sessions_12 (by decide) ?_
            refine kt_icmp_lt (tgt := 37) hx hb dX7_sessions_13 (by decide) (nI_toInt (by omega)) (nI_toInt (by decide)) (fun c13 => absurd c13 (by omega)) (fun c13 => ?_)
            refine lv_iload_n hx hb dX7_sessions_16 rfl (lv_at hl 2 rfl) ?_
            refine lv_bipush (v := nI 60) hx hb dX7_sessions_17 (by decide) ?_
            refine kt_icmp_gt (tgt := 37) hx hb dX7_sessions_19 (by decide) (nI_toInt (by omega)) (nI_toInt (by decide)) (fun c19 => absurd c19 (by omega)) (fun c19 => ?_)
            refine lv_iload_n hx hb dX7_sessions_22 rfl (lv_at hl 3 rfl) ?_
            refine kt_if_lt (tgt := 37) hx hb dX7_sessions_23 (by decide) (nI_toInt (by omega)) (fun c23 => absurd c23 (by omega)) (fun c23 => ?_)
            refine lv_iload hx hb dX7_sessions_26 (lv_at hl 4 rfl) ?_
            refine kt_if_lt (tgt := 37) hx hb dX7_sessions_28 (by decide) rfl (fun c28 => ?_) (fun c28 => ?_)
            · skip
              refine lv_bipush (v := (-102)) hx hb dX7_sessions_37 (by decide) ?_
              exact ro_ri hx hb hr hlk dX7_sessions_39 (by unfold F_sessions; rw [hi_x, hi_t]; dsimp only; rw [hi_sd]; dsimp only; rw [hi_y])
            · skip
              refine lv_iload hx hb dX7_sessions_31 (lv_at hl 4 rfl) ?_
              refine lv_iconst (v := nI 2) hx hb dX7_sessions_33 (by decide) ?_
              refine kt_icmp_le (tgt := 40) hx hb dX7_sessions_34 (by decide) rfl (nI_toInt (by decide)) (fun c34 => absurd c34 (by omega)) (fun c34 => ?_)
              refine lv_bipush (v := (-102)) hx hb dX7_sessions_37 (by decide) ?_
              exact ro_ri hx hb hr hlk dX7_sessions_39 (by unfold F_sessions; rw [hi_x, hi_t]; dsimp only; rw [hi_sd]; dsimp only; rw [hi_y])
          · skip
            obtain ⟨hw, rfl⟩ := ix_some hi_y
            refine lv_aload_n hx hb dX7_sessions_0 rfl (lv_at hl 0 rfl) ?_
            refine lv_iload_n hx hb dX7_sessions_1 rfl (lv_at hl 1 rfl) ?_
            refine ro_Vq (As := [.int (nI j)]) (rest := []) (v := some (pa j)) ⟨hx, hb, hml, hown, hts⟩ (c_X7_personAt_s l D cy ev ax g q bt rv pf pa j (by omega) hI.n (hZ j (by omega)).1) (kz_cwV 1 hts wm_326 wm_323 wm_324 wm_325 wm_2 rfl rfl (by decide +kernel) ⟨Nat.le_of_ble_eq_true rfl, Nat.le_of_ble_eq_true rfl⟩) hK hE (hP.sub (ws' := [zO (ax 0) 7 [.ref (ax 1), .ref (ax 3), .ref (ax 4), .ref (ax 10), .ref (ax 16), .int (nI (g 0)), .int (nI (g 4)), .int (nI (g 6)), .int (nI (g 5))], zQ cy (ax 3) 4 pf]) [0, 3] rfl) (kz_recv 0 hK hP rfl rfl) rfl hl.1 rfl (Nat.le_of_ble_eq_true rfl) dX7_sessions_2 ⟨Nat.le_of_ble_eq_true rfl, Nat.le_of_ble_eq_true rfl⟩ ?_
            refine kn_as (st' := [.ref (pa j)]) rfl ?_
            refine lv_ifnonnull (tgt := 11) hx hb dX7_sessions_5 (by decide) ?_
            refine lv_iload_n hx hb dX7_sessions_11 rfl (lv_at hl 2 rfl) ?_
            refine lv_iconst (v := nI 1) hx hb dX7_sessions_12 (by decide) ?_
            refine kt_icmp_lt (tgt := 37) hx hb dX7_sessions_13 (by decide) (nI_toInt (by omega)) (nI_toInt (by decide)) (fun c13 => absurd c13 (by omega)) (fun c13 => ?_)
            refine lv_iload_n hx hb dX7_sessions_16 rfl (lv_at hl 2 rfl) ?_
            refine lv_bipush (v := nI 60) hx hb dX7_sessions_17 (by decide) ?_
            refine kt_icmp_gt (tgt := 37) hx hb dX7_sessions_19 (by decide) (nI_toInt (by omega)) (nI_toInt (by decide)) (fun c19 => absurd c19 (by omega)) (fun c19 => ?_)
            refine lv_iload_n hx hb dX7_sessions_22 rfl (lv_at hl 3 rfl) ?_
            refine kt_if_lt (tgt := 37) hx hb dX7_sessions_23 (by decide) (nI_toInt (by omega)) (fun c23 => absurd c23 (by omega)) (fun c23 => ?_)
            refine lv_iload hx hb dX7_sessions_26 (lv_at hl 4 rfl) ?_
            refine kt_if_lt (tgt := 37) hx hb dX7_sessions_28 (by decide) (nI_toInt (by omega)) (fun c28 => absurd c28 (by omega)) (fun c28 => ?_)
            refine lv_iload hx hb dX7_sessions_31 (lv_at hl 4 rfl) ?_
            refine lv_iconst (v := nI 2) hx hb dX7_sessions_33 (by decide) ?_
            refine kt_icmp_le (tgt := 40) hx hb dX7_sessions_34 (by decide) (nI_toInt (by omega)) (nI_toInt (by decide)) (fun c34 => ?_) (fun c34 => absurd c34 (by omega))
            refine lv_iload_n hx hb dX7_sessions_40 rfl (lv_at hl 3 rfl) ?_
            refine kn_i2l hx hb dX7_sessions_41 (by omega) ?_
            refine lv_lstore (lv' := [(5, .long (lN d)), (0, .ref (ax 0)), (1, .int (nI j)), (2, .int (nI (k + 1))), (3, .int (nI d)), (4, .int (nI w))]) hx hb dX7_sessions_42 hl (by decide) rfl (fun ls hl => ?_)
            refine lv_iconst (v := nI 0) hx hb dX7_sessions_44 (by decide) ?_
            refine lv_istore (lv' := [(7, .int (nI 0)), (5, .long (lN d)), (0, .ref (ax 0)), (1, .int (nI j)), (2, .int (nI (k + 1))), (3, .int (nI d)), (4, .int (nI w))]) hx hb dX7_sessions_45 hl (by decide) rfl (fun ls hl => ?_)
            refine lv_iconst (v := nI 0) hx hb dX7_sessions_47 (by decide) ?_
            refine lv_istore (lv' := [(8, .int (nI 0)), (7, .int (nI 0)), (5, .long (lN d)), (0, .ref (ax 0)), (1, .int (nI j)), (2, .int (nI (k + 1))), (3, .int (nI d)), (4, .int (nI w))]) hx hb dX7_sessions_48 hl (by decide) rfl (fun ls hl => ?_)
            refine lv_iconst (v := nI 0) hx hb dX7_sessions_50 (by decide) ?_
            refine lv_istore (lv' := [(9, .int (nI 0)), (8, .int (nI 0)), (7, .int (nI 0)), (5, .long (lN d)), (0, .ref (ax 0)), (1, .int (nI j)), (2, .int (nI (k + 1))), (3, .int (nI d)), (4, .int (nI w))]) hx hb dX7_sessions_51 hl (by decide) rfl (fun ls hl => ?_)
            refine kn_loopR (α := Unit) (k + 1) (fun i _ ls => (i ≤ k + 1) ∧ ((ses (g 0) q (g 1) j d i).1 < 2147483648) ∧ lv_has ls 12 [(0, .ref (ax 0)), (1, .int (nI j)), (2, .int (nI (k + 1))), (3, .int (nI d)), (4, .int (nI w)), (5, .long (lN ((ses (g 0) q (g 1) j d i).1))), (7, .int (nI ((ses (g 0) q (g 1) j d i).2.1))), (8, .int (nI ((ses (g 0) q (g 1) j d i).2.2))), (9, .int (nI i))]) (0) (()) ⟨(by omega), hd, lv_sub hl [4, 5, 6, 7, 8, 3, 2, 1, 0] rfl⟩ (fun i _ ls hI ih53 => ?_)
            obtain ⟨hi, hsd, hl⟩ := hI
            refine lv_iload hx hb dX7_sessions_53 (lv_at hl 8 rfl) ?_
            refine lv_iload_n hx hb dX7_sessions_55 rfl (lv_at hl 2 rfl) ?_
            refine kt_icmp_ge (tgt := 147) hx hb dX7_sessions_56 (by decide) (nI_toInt (by omega)) (nI_toInt (by omega)) (fun c56 => ?_) (fun c56 => ?_)
            · skip
              refine lv_iload hx hb dX7_sessions_147 (lv_at hl 4 rfl) ?_
              refine kt_if_ne (tgt := 157) hx hb dX7_sessions_149 (by decide) (nI_toInt (by omega)) (fun c149 => ?_) (fun c149 => ?_)
              · skip
                refine lv_iload hx hb dX7_sessions_157 (lv_at hl 4 rfl) ?_
                refine lv_iconst (v := nI 1) hx hb dX7_sessions_159 (by decide) ?_
                refine kt_icmp_ne (tgt := 168) hx hb dX7_sessions_160 (by decide) (nI_toInt (by omega)) (nI_toInt (by decide)) (fun c160 => ?_) (fun c160 => ?_)
                · skip
                  refine lv_lload hx hb dX7_sessions_168 (lv_at hl 5 rfl) ?_
                  refine kn_l2i hx hb dX7_sessions_170 ?_
                  exact ro_ri hx hb hr hlk dX7_sessions_171 (by unfold F_sessions; rw [hi_x, hi_t]; dsimp only; rw [hi_sd]; dsimp only; rw [hi_y]; dsimp only; rw [show i = k + 1 by omega]; rw [if_neg (by omega), if_neg (by omega)])
                · skip
                  refine lv_iload hx hb dX7_sessions_163 (lv_at hl 7 rfl) ?_
                  refine lv_goto (tgt := 171) hx hb dX7_sessions_165 (by decide) ?_
                  exact ro_ri hx hb hr hlk dX7_sessions_171 (by unfold F_sessions; rw [hi_x, hi_t]; dsimp only; rw [hi_sd]; dsimp only; rw [hi_y]; dsimp only; rw [show i = k + 1 by omega]; rw [if_neg (by omega), if_pos (by omega)])
              · skip
                refine lv_iload hx hb dX7_sessions_152 (lv_at hl 6 rfl) ?_
                refine lv_goto (tgt := 171) hx hb dX7_sessions_154 (by decide) ?_
                exact ro_ri hx hb hr hlk dX7_sessions_171 (by unfold F_sessions; rw [hi_x, hi_t]; dsimp only; rw [hi_sd]; dsimp only; rw [hi_y]; dsimp only; rw [show i = k + 1 by omega]; rw [if_pos (by omega)])
            · skip
              refine lv_lload hx hb dX7_sessions_59 (lv_at hl 5 rfl) ?_
              refine ro_Sl (As := [.long (lN ((ses (g 0) q (g 1) j d i).1))]) (rest := []) (v := lN (nxs ((ses (g 0) q (g 1) j d i).1))) ⟨hx, hb, hml, hown, hts⟩ (c_X7_nextSeed l D cy ev ((ses (g 0) q (g 1) j d i).1) (by omega)) (kz_cwS 1 hts wm_648 wm_646 wm_647 wm_2 rfl rfl (by decide +kernel) ⟨Nat.le_of_ble_eq_true rfl, Nat.le_of_ble_eq_true rfl⟩) hK hE (fun k q h => by simp at h) rfl hl.1 rfl (Nat.le_of_ble_eq_true rfl) dX7_sessions_61 ⟨Nat.le_of_ble_eq_true rfl, Nat.le_of_ble_eq_true rfl⟩ ?_
              refine lv_lstore (lv' := [(5, .long (lN (nxs ((ses (g 0) q (g 1) j d i).1)))), (0, .ref (ax 0)), (1, .int (nI j)), (2, .int (nI (k + 1))), (3, .int (nI d)), (4, .int (nI w)), (7, .int (nI ((ses (g 0) q (g 1) j d i).2.1))), (8, .int (nI ((ses (g 0) q (g 1) j d i).2.2))), (9, .int (nI i))]) hx hb dX7_sessions_64 hl (by decide) rfl (fun ls hl => ?_)
              have hnx0 := nxs_lt (ses (g 0) q (g 1) j d i).1
              refine lv_lload hx hb dX7_sessions_66 (lv_at hl 0 rfl) ?_
              refine lv_aload_n hx hb dX7_sessions_68 rfl (lv_at hl 1 rfl) ?_
              refine va_get (ci := 7) (C := RX7) (T := TX7) (N := 9) hx hb hts inX7 hown hK hP 0 rfl rfl 5 (by decide) (hts _ wm_239) (fun _ h9 => h9) rfl dX7_sessions_69 ?_
              refine ro_Si (As := [.long (lN (nxs ((ses (g 0) q (g 1) j d i).1))), .int (nI (g 0))]) (rest := []) (v := nI ((nxs ((ses (g 0) q (g 1) j d i).1)) / 65536 % (g 0))) ⟨hx, hb, hml, hown, hts⟩ (c_X7_draw l D cy ev (nxs ((ses (g 0) q (g 1) j d i).1)) (g 0) (by omega) (by omega) (by omega)) (kz_cwS 2 hts wm_654 wm_652 wm_653 wm_2 rfl rfl (by decide +kernel) ⟨Nat.le_of_ble_eq_true rfl, Nat.le_of_ble_eq_true rfl⟩) hK hE (fun k q h => by simp at h) rfl hl.1 rfl (Nat.le_of_ble_eq_true rfl) dX7_sessions_72 ⟨Nat.le_of_ble_eq_true rfl, Nat.le_of_ble_eq_true rfl⟩ ?_
              have hwl : nxs (ses (g 0) q (g 1) j d i).1 / 65536 % (g 0) < g 0 := Nat.mod_lt _ (by omega)
              have hnx1 := nxs_lt (ses (g 0) q (g 1) j d i).1
              have hnx2 := nxs_lt (nxs (ses (g 0) q (g 1) j d i).1)
              refine lv_istore (lv' := [(10, .int (nI ((nxs ((ses (g 0) q (g 1) j d i).1)) / 65536 % (g 0)))), (5, .long (lN (nxs ((ses (g 0) q (g 1) j d i).1)))), (0, .ref (ax 0)), (1, .int (nI j)), (2, .int (nI (k + 1))), (3, .int (nI d)), (4, .int (nI w)), (7, .int (nI ((ses (g 0) q (g 1) j d i).2.1))), (8, .int (nI ((ses (g 0) q (g 1) j d i).2.2))), (9, .int (nI i))]) hx hb dX7_sessions_75 hl (by decide) rfl (fun ls hl => ?_)
              refine lv_lload hx hb dX7_sessions_77 (lv_at hl 1 rfl) ?_
              refine ro_Sl (As := [.long (lN (nxs ((ses (g 0) q (g 1) j d i).1)))]) (rest := []) (v := lN (nxs (nxs ((ses (g 0) q (g 1) j d i).1)))) ⟨hx, hb, hml, hown, hts⟩ (c_X7_nextSeed l D cy ev (nxs ((ses (g 0) q (g 1) j d i).1)) (by omega)) (kz_cwS 1 hts wm_648 wm_646 wm_647 wm_2 rfl rfl (by decide +kernel) ⟨Nat.le_of_ble_eq_true rfl, Nat.le_of_ble_eq_true rfl⟩) hK hE (fun k q h => by simp at h) rfl hl.1 rfl (Nat.le_of_ble_eq_true rfl) dX7_sessions_79 ⟨Nat.le_of_ble_eq_true rfl, Nat.le_of_ble_eq_true rfl⟩ ?_
              refine lv_lstore (lv' := [(5, .long (lN (nxs (nxs ((ses (g 0) q (g 1) j d i).1))))), (10, .int (nI ((nxs ((ses (g 0) q (g 1) j d i).1)) / 65536 % (g 0)))), (0, .ref (ax 0)), (1, .int (nI j)), (2, .int (nI (k + 1))), (3, .int (nI d)), (4, .int (nI w)), (7, .int (nI ((ses (g 0) q (g 1) j d i).2.1))), (8, .int (nI ((ses (g 0) q (g 1) j d i).2.2))), (9, .int (nI i))]) hx hb dX7_sessions_82 hl (by decide) rfl (fun ls hl => ?_)
              refine lv_iload hx hb dX7_sessions_84 (lv_at hl 1 rfl) ?_
              refine lv_iload_n hx hb dX7_sessions_86 rfl (lv_at hl 3 rfl) ?_
              refine kt_icmp_ne (tgt := 94) hx hb dX7_sessions_87 (by decide) (nI_toInt (by omega)) (nI_toInt (by omega)) (fun c87 => ?_) (fun c87 => ?_)
              · skip
                refine lv_iconst (v := nI 0) hx hb dX7_sessions_94 (by decide) ?_
                refine lv_istore (lv' := [(11, .int (nI 0)), (5, .long (lN (nxs (nxs ((ses (g 0) q (g 1) j d i).1))))), (10, .int (nI ((nxs ((ses (g 0) q (g 1) j d i).1)) / 65536 % (g 0)))), (0, .ref (ax 0)), (1, .int (nI j)), (2, .int (nI (k + 1))), (3, .int (nI d)), (4, .int (nI w)), (7, .int (nI ((ses (g 0) q (g 1) j d i).2.1))), (8, .int (nI ((ses (g 0) q (g 1) j d i).2.2))), (9, .int (nI i))]) hx hb dX7_sessions_95 hl (by decide) rfl (fun ls hl => ?_)
                refine lv_lload hx hb dX7_sessions_97 (lv_at hl 1 rfl) ?_
                refine lv_bipush (v := nI 10) hx hb dX7_sessions_99 (by decide) ?_
                refine ro_Si (As := [.long (lN (nxs (nxs ((ses (g 0) q (g 1) j d i).1)))), .int (nI 10)]) (rest := []) (v := nI ((nxs (nxs ((ses (g 0) q (g 1) j d i).1))) / 65536 % 10)) ⟨hx, hb, hml, hown, hts⟩ (c_X7_draw l D cy ev (nxs (nxs ((ses (g 0) q (g 1) j d i).1))) 10 (by omega) (by omega) (by omega)) (kz_cwS 2 hts wm_654 wm_652 wm_653 wm_2 rfl rfl (by decide +kernel) ⟨Nat.le_of_ble_eq_true rfl, Nat.le_of_ble_eq_true rfl⟩) hK hE (fun k q h => by simp at h) rfl hl.1 rfl (Nat.le_of_ble_eq_true rfl) dX7_sessions_101 ⟨Nat.le_of_ble_eq_true rfl, Nat.le_of_ble_eq_true rfl⟩ ?_
                refine lv_aload_n hx hb dX7_sessions_104 rfl (lv_at hl 3 rfl) ?_
                refine lv_iload hx hb dX7_sessions_105 (lv_at hl 2 rfl) ?_
                refine lv_iload hx hb dX7_sessions_107 (lv_at hl 0 rfl) ?_
                refine kt_if_eq (tgt := 116) hx hb dX7_sessions_109 (by decide) (nI_toInt (by decide)) (fun c109 => ?_) (fun c109 => absurd c109 (by omega))
                refine lv_iconst (v := nI 5) hx hb dX7_sessions_116 (by decide) ?_
                refine ro_Vi (As := [.int (nI ((nxs ((ses (g 0) q (g 1) j d i).1)) / 65536 % (g 0))), .int (nI 5)]) (rest := [.int (nI ((nxs (nxs ((ses (g 0) q (g 1) j d i).1))) / 65536 % 10))]) (v := F_about g q (nI ((nxs ((ses (g 0) q (g 1) j d i).1)) / 65536 % (g 0))) (nI 5)) ⟨hx, hb, hml, hown, hts⟩ (c_X7_about l D cy ev ax g q bt rv pf pa pz hI hZ (nI ((nxs ((ses (g 0) q (g 1) j d i).1)) / 65536 % (g 0))) (nI 5)) (kz_cwV 2 hts wm_317 wm_656 wm_315 wm_316 wm_2 rfl rfl (by decide +kernel) ⟨Nat.le_of_ble_eq_true rfl, Nat.le_of_ble_eq_true rfl⟩) hK hE hP (kz_recv 0 hK hP rfl rfl) rfl hl.1 rfl (Nat.le_of_ble_eq_true rfl) dX7_sessions_117 ⟨Nat.le_of_ble_eq_true rfl, Nat.le_of_ble_eq_true rfl⟩ ?_
                refine kn_as (st' := [.int (nI (tj q (nxs (ses (g 0) q (g 1) j d i).1 / 65536 % (g 0)) false (g 1))), .int (nI ((nxs (nxs ((ses (g 0) q (g 1) j d i).1))) / 65536 % 10))]) (by rw [F_about_f hwl hn4]) ?_
                have htj := tj_le q (nxs (ses (g 0) q (g 1) j d i).1 / 65536 % (g 0)) false (g 1)
                have hsc : nxs (nxs (ses (g 0) q (g 1) j d i).1) / 65536 % 10 < 10 := Nat.mod_lt _ (by decide)
                refine kt_icmp_ge (tgt := 141) hx hb dX7_sessions_120 (by decide) (nI_toInt (by omega)) (nI_toInt (by omega)) (fun c120 => ?_) (fun c120 => ?_)
                · skip
                  refine kn_iinc (k := 10) (x := i) (d := 1) (lv' := [(9, .int (nI (i + 1))), (11, .int (nI 0)), (5, .long (lN (nxs (nxs ((ses (g 0) q (g 1) j d i).1))))), (10, .int (nI ((nxs ((ses (g 0) q (g 1) j d i).1)) / 65536 % (g 0)))), (0, .ref (ax 0)), (1, .int (nI j)), (2, .int (nI (k + 1))), (3, .int (nI d)), (4, .int (nI w)), (7, .int (nI ((ses (g 0) q (g 1) j d i).2.1))), (8, .int (nI ((ses (g 0) q (g 1) j d i).2.2)))]) hx hb dX7_sessions_141 hl rfl (by decide) rfl (fun ls hl => ?_)
                  refine lv_goto (tgt := 53) hx hb dX7_sessions_144 (by decide) ?_
                  have hl : lv_has ls 12 [(9, .int (nI (i + 1))), (11, .int (nI 0)), (5, .long (lN (nxs (nxs ((ses (g 0) q (g 1) j d i).1))))), (10, .int (nI ((nxs ((ses (g 0) q (g 1) j d i).1)) / 65536 % (g 0)))), (0, .ref (ax 0)), (1, .int (nI j)), (2, .int (nI (k + 1))), (3, .int (nI d)), (4, .int (nI w)), (7, .int (nI ((ses (g 0) q (g 1) j d (i + 1)).2.1))), (8, .int (nI ((ses (g 0) q (g 1) j d i).2.2)))] := by
                    have e9 : nI ((ses (g 0) q (g 1) j d i).2.1) = nI ((ses (g 0) q (g 1) j d (i + 1)).2.1) := congrArg nI (ses_n1 false (by symm; exact decide_eq_false (show ¬ sew (g 0) q (g 1) j d i = j by unfold sew; omega)) (by unfold sec sew; omega))
                    rw [← e9]
                    exact hl
                  have hl : lv_has ls 12 [(9, .int (nI (i + 1))), (11, .int (nI 0)), (5, .long (lN (nxs (nxs ((ses (g 0) q (g 1) j d i).1))))), (10, .int (nI ((nxs ((ses (g 0) q (g 1) j d i).1)) / 65536 % (g 0)))), (0, .ref (ax 0)), (1, .int (nI j)), (2, .int (nI (k + 1))), (3, .int (nI d)), (4, .int (nI w)), (7, .int (nI ((ses (g 0) q (g 1) j d (i + 1)).2.1))), (8, .int (nI ((ses (g 0) q (g 1) j d (i + 1)).2.2)))] := by
                    have e9 : nI ((ses (g 0) q (g 1) j d i).2.2) = nI ((ses (g 0) q (g 1) j d (i + 1)).2.2) := congrArg nI (ses_n2 false (by symm; exact decide_eq_false (show ¬ sew (g 0) q (g 1) j d i = j by unfold sew; omega)) (by unfold sec sew; omega))
                    rw [← e9]
                    exact hl
                  exact ih53 (()) _ (by omega) ⟨(by omega), nxs_lt _, lv_sub hl [4, 5, 6, 7, 8, 2, 9, 10, 0] rfl⟩
                · skip
                  refine kn_iinc (k := 8) (x := ((ses (g 0) q (g 1) j d i).2.1)) (d := 1) (lv' := [(7, .int (nI ((ses (g 0) q (g 1) j d i).2.1 + 1))), (11, .int (nI 0)), (5, .long (lN (nxs (nxs ((ses (g 0) q (g 1) j d i).1))))), (10, .int (nI ((nxs ((ses (g 0) q (g 1) j d i).1)) / 65536 % (g 0)))), (0, .ref (ax 0)), (1, .int (nI j)), (2, .int (nI (k + 1))), (3, .int (nI d)), (4, .int (nI w)), (8, .int (nI ((ses (g 0) q (g 1) j d i).2.2))), (9, .int (nI i))]) hx hb dX7_sessions_123 hl rfl (by decide) rfl (fun ls hl => ?_)
                  refine lv_iload hx hb dX7_sessions_126 (lv_at hl 9 rfl) ?_
                  refine lv_iload hx hb dX7_sessions_128 (lv_at hl 1 rfl) ?_
                  refine kt_if_eq (tgt := 137) hx hb dX7_sessions_130 (by decide) (nI_toInt (by decide)) (fun c130 => ?_) (fun c130 => absurd c130 (by omega))
                  refine lv_iconst (v := nI 1) hx hb dX7_sessions_137 (by decide) ?_
                  refine kn_iadd hx hb dX7_sessions_138 ?_
                  refine lv_istore (lv' := [(8, .int (nI (((ses (g 0) q (g 1) j d i).2.2) + 1))), (7, .int (nI ((ses (g 0) q (g 1) j d i).2.1 + 1))), (11, .int (nI 0)), (5, .long (lN (nxs (nxs ((ses (g 0) q (g 1) j d i).1))))), (10, .int (nI ((nxs ((ses (g 0) q (g 1) j d i).1)) / 65536 % (g 0)))), (0, .ref (ax 0)), (1, .int (nI j)), (2, .int (nI (k + 1))), (3, .int (nI d)), (4, .int (nI w)), (9, .int (nI i))]) hx hb dX7_sessions_139 hl (by decide) rfl (fun ls hl => ?_)
                  refine kn_iinc (k := 10) (x := i) (d := 1) (lv' := [(9, .int (nI (i + 1))), (8, .int (nI (((ses (g 0) q (g 1) j d i).2.2) + 1))), (7, .int (nI ((ses (g 0) q (g 1) j d i).2.1 + 1))), (11, .int (nI 0)), (5, .long (lN (nxs (nxs ((ses (g 0) q (g 1) j d i).1))))), (10, .int (nI ((nxs ((ses (g 0) q (g 1) j d i).1)) / 65536 % (g 0)))), (0, .ref (ax 0)), (1, .int (nI j)), (2, .int (nI (k + 1))), (3, .int (nI d)), (4, .int (nI w))]) hx hb dX7_sessions_141 hl rfl (by decide) rfl (fun ls hl => ?_)
                  refine lv_goto (tgt := 53) hx hb dX7_sessions_144 (by decide) ?_
                  have hl : lv_has ls 12 [(9, .int (nI (i + 1))), (8, .int (nI (((ses (g 0) q (g 1) j d i).2.2) + 1))), (7, .int (nI ((ses (g 0) q (g 1) j d (i + 1)).2.1))), (11, .int (nI 0)), (5, .long (lN (nxs (nxs ((ses (g 0) q (g 1) j d i).1))))), (10, .int (nI ((nxs ((ses (g 0) q (g 1) j d i).1)) / 65536 % (g 0)))), (0, .ref (ax 0)), (1, .int (nI j)), (2, .int (nI (k + 1))), (3, .int (nI d)), (4, .int (nI w))] := by
                    have e9 : nI ((ses (g 0) q (g 1) j d i).2.1 + 1) = nI ((ses (g 0) q (g 1) j d (i + 1)).2.1) := congrArg nI (ses_y1 false (by symm; exact decide_eq_false (show ¬ sew (g 0) q (g 1) j d i = j by unfold sew; omega)) (by unfold sec sew; omega))
                    rw [← e9]
                    exact hl
                  have hl : lv_has ls 12 [(9, .int (nI (i + 1))), (8, .int (nI ((ses (g 0) q (g 1) j d (i + 1)).2.2))), (7, .int (nI ((ses (g 0) q (g 1) j d (i + 1)).2.1))), (11, .int (nI 0)), (5, .long (lN (nxs (nxs ((ses (g 0) q (g 1) j d i).1))))), (10, .int (nI ((nxs ((ses (g 0) q (g 1) j d i).1)) / 65536 % (g 0)))), (0, .ref (ax 0)), (1, .int (nI j)), (2, .int (nI (k + 1))), (3, .int (nI d)), (4, .int (nI w))] := by
                    have e9 : nI (((ses (g 0) q (g 1) j d i).2.2) + 1) = nI ((ses (g 0) q (g 1) j d (i + 1)).2.2) := congrArg nI (ses_y2 false (by symm; exact decide_eq_false (show ¬ sew (g 0) q (g 1) j d i = j by unfold sew; omega)) (by unfold sec sew; omega))
                    rw [← e9]
                    exact hl
                  exact ih53 (()) _ (by omega) ⟨(by omega), nxs_lt _, lv_sub hl [6, 7, 8, 9, 10, 4, 2, 1, 0] rfl⟩
              · skip
                refine lv_iconst (v := nI 1) hx hb dX7_sessions_90 (by decide) ?_
                refine lv_goto (tgt := 95) hx hb dX7_sessions_91 (by decide) ?_
                refine lv_istore (lv' := [(11, .int (nI 1)), (5, .long (lN (nxs (nxs ((ses (g 0) q (g 1) j d i).1))))), (10, .int (nI ((nxs ((ses (g 0) q (g 1) j d i).1)) / 65536 % (g 0)))), (0, .ref (ax 0)), (1, .int (nI j)), (2, .int (nI (k + 1))), (3, .int (nI d)), (4, .int (nI w)), (7, .int (nI ((ses (g 0) q (g 1) j d i).2.1))), (8, .int (nI ((ses (g 0) q (g 1) j d i).2.2))), (9, .int (nI i))]) hx hb dX7_sessions_95 hl (by decide) rfl (fun ls hl => ?_)
                refine lv_lload hx hb dX7_sessions_97 (lv_at hl 1 rfl) ?_
                refine lv_bipush (v := nI 10) hx hb dX7_sessions_99 (by decide) ?_
                refine ro_Si (As := [.long (lN (nxs (nxs ((ses (g 0) q (g 1) j d i).1)))), .int (nI 10)]) (rest := []) (v := nI ((nxs (nxs ((ses (g 0) q (g 1) j d i).1))) / 65536 % 10)) ⟨hx, hb, hml, hown, hts⟩ (c_X7_draw l D cy ev (nxs (nxs ((ses (g 0) q (g 1) j d i).1))) 10 (by omega) (by omega) (by omega)) (kz_cwS 2 hts wm_654 wm_652 wm_653 wm_2 rfl rfl (by decide +kernel) ⟨Nat.le_of_ble_eq_true rfl, Nat.le_of_ble_eq_true rfl⟩) hK hE (fun k q h => by simp at h) rfl hl.1 rfl (Nat.le_of_ble_eq_true rfl) dX7_sessions_101 ⟨Nat.le_of_ble_eq_true rfl, Nat.le_of_ble_eq_true rfl⟩ ?_
                refine lv_aload_n hx hb dX7_sessions_104 rfl (lv_at hl 3 rfl) ?_
                refine lv_iload hx hb dX7_sessions_105 (lv_at hl 2 rfl) ?_
                refine lv_iload hx hb dX7_sessions_107 (lv_at hl 0 rfl) ?_
                refine kt_if_eq (tgt := 116) hx hb dX7_sessions_109 (by decide) (nI_toInt (by decide)) (fun c109 => absurd c109 (by omega)) (fun c109 => ?_)
                refine lv_iconst (v := nI 4) hx hb dX7_sessions_112 (by decide) ?_
                refine lv_goto (tgt := 117) hx hb dX7_sessions_113 (by decide) ?_
                refine ro_Vi (As := [.int (nI ((nxs ((ses (g 0) q (g 1) j d i).1)) / 65536 % (g 0))), .int (nI 4)]) (rest := [.int (nI ((nxs (nxs ((ses (g 0) q (g 1) j d i).1))) / 65536 % 10))]) (v := F_about g q (nI ((nxs ((ses (g 0) q (g 1) j d i).1)) / 65536 % (g 0))) (nI 4)) ⟨hx, hb, hml, hown, hts⟩ (c_X7_about l D cy ev ax g q bt rv pf pa pz hI hZ (nI ((nxs ((ses (g 0) q (g 1) j d i).1)) / 65536 % (g 0))) (nI 4)) (kz_cwV 2 hts wm_317 wm_656 wm_315 wm_316 wm_2 rfl rfl (by decide +kernel) ⟨Nat.le_of_ble_eq_true rfl, Nat.le_of_ble_eq_true rfl⟩) hK hE hP (kz_recv 0 hK hP rfl rfl) rfl hl.1 rfl (Nat.le_of_ble_eq_true rfl) dX7_sessions_117 ⟨Nat.le_of_ble_eq_true rfl, Nat.le_of_ble_eq_true rfl⟩ ?_
                refine kn_as (st' := [.int (nI (tj q (nxs (ses (g 0) q (g 1) j d i).1 / 65536 % (g 0)) true (g 1))), .int (nI ((nxs (nxs ((ses (g 0) q (g 1) j d i).1))) / 65536 % 10))]) (by rw [F_about_t hwl hn4]) ?_
                have htj := tj_le q (nxs (ses (g 0) q (g 1) j d i).1 / 65536 % (g 0)) true (g 1)
                have hsc : nxs (nxs (ses (g 0) q (g 1) j d i).1) / 65536 % 10 < 10 := Nat.mod_lt _ (by decide)
                refine kt_icmp_ge (tgt := 141) hx hb dX7_sessions_120 (by decide) (nI_toInt (by omega)) (nI_toInt (by omega)) (fun c120 => ?_) (fun c120 => ?_)
                · skip
                  refine kn_iinc (k := 10) (x := i) (d := 1) (lv' := [(9, .int (nI (i + 1))), (11, .int (nI 1)), (5, .long (lN (nxs (nxs ((ses (g 0) q (g 1) j d i).1))))), (10, .int (nI ((nxs ((ses (g 0) q (g 1) j d i).1)) / 65536 % (g 0)))), (0, .ref (ax 0)), (1, .int (nI j)), (2, .int (nI (k + 1))), (3, .int (nI d)), (4, .int (nI w)), (7, .int (nI ((ses (g 0) q (g 1) j d i).2.1))), (8, .int (nI ((ses (g 0) q (g 1) j d i).2.2)))]) hx hb dX7_sessions_141 hl rfl (by decide) rfl (fun ls hl => ?_)
                  refine lv_goto (tgt := 53) hx hb dX7_sessions_144 (by decide) ?_
                  have hl : lv_has ls 12 [(9, .int (nI (i + 1))), (11, .int (nI 1)), (5, .long (lN (nxs (nxs ((ses (g 0) q (g 1) j d i).1))))), (10, .int (nI ((nxs ((ses (g 0) q (g 1) j d i).1)) / 65536 % (g 0)))), (0, .ref (ax 0)), (1, .int (nI j)), (2, .int (nI (k + 1))), (3, .int (nI d)), (4, .int (nI w)), (7, .int (nI ((ses (g 0) q (g 1) j d (i + 1)).2.1))), (8, .int (nI ((ses (g 0) q (g 1) j d i).2.2)))] := by
                    have e9 : nI ((ses (g 0) q (g 1) j d i).2.1) = nI ((ses (g 0) q (g 1) j d (i + 1)).2.1) := congrArg nI (ses_n1 true (by symm; exact decide_eq_true (show sew (g 0) q (g 1) j d i = j by unfold sew; omega)) (by unfold sec sew; omega))
                    rw [← e9]
                    exact hl
                  have hl : lv_has ls 12 [(9, .int (nI (i + 1))), (11, .int (nI 1)), (5, .long (lN (nxs (nxs ((ses (g 0) q (g 1) j d i).1))))), (10, .int (nI ((nxs ((ses (g 0) q (g 1) j d i).1)) / 65536 % (g 0)))), (0, .ref (ax 0)), (1, .int (nI j)), (2, .int (nI (k + 1))), (3, .int (nI d)), (4, .int (nI w)), (7, .int (nI ((ses (g 0) q (g 1) j d (i + 1)).2.1))), (8, .int (nI ((ses (g 0) q (g 1) j d (i + 1)).2.2)))] := by
                    have e9 : nI ((ses (g 0) q (g 1) j d i).2.2) = nI ((ses (g 0) q (g 1) j d (i + 1)).2.2) := congrArg nI (ses_n2 true (by symm; exact decide_eq_true (show sew (g 0) q (g 1) j d i = j by unfold sew; omega)) (by unfold sec sew; omega))
                    rw [← e9]
                    exact hl
                  exact ih53 (()) _ (by omega) ⟨(by omega), nxs_lt _, lv_sub hl [4, 5, 6, 7, 8, 2, 9, 10, 0] rfl⟩
                · skip
                  refine kn_iinc (k := 8) (x := ((ses (g 0) q (g 1) j d i).2.1)) (d := 1) (lv' := [(7, .int (nI ((ses (g 0) q (g 1) j d i).2.1 + 1))), (11, .int (nI 1)), (5, .long (lN (nxs (nxs ((ses (g 0) q (g 1) j d i).1))))), (10, .int (nI ((nxs ((ses (g 0) q (g 1) j d i).1)) / 65536 % (g 0)))), (0, .ref (ax 0)), (1, .int (nI j)), (2, .int (nI (k + 1))), (3, .int (nI d)), (4, .int (nI w)), (8, .int (nI ((ses (g 0) q (g 1) j d i).2.2))), (9, .int (nI i))]) hx hb dX7_sessions_123 hl rfl (by decide) rfl (fun ls hl => ?_)
                  refine lv_iload hx hb dX7_sessions_126 (lv_at hl 9 rfl) ?_
                  refine lv_iload hx hb dX7_sessions_128 (lv_at hl 1 rfl) ?_
                  refine kt_if_eq (tgt := 137) hx hb dX7_sessions_130 (by decide) (nI_toInt (by decide)) (fun c130 => absurd c130 (by omega)) (fun c130 => ?_)
                  refine lv_iconst (v := nI 0) hx hb dX7_sessions_133 (by decide) ?_
                  refine lv_goto (tgt := 138) hx hb dX7_sessions_134 (by decide) ?_
                  refine kn_iadd hx hb dX7_sessions_138 ?_
                  refine lv_istore (lv' := [(8, .int (nI (((ses (g 0) q (g 1) j d i).2.2) + 0))), (7, .int (nI ((ses (g 0) q (g 1) j d i).2.1 + 1))), (11, .int (nI 1)), (5, .long (lN (nxs (nxs ((ses (g 0) q (g 1) j d i).1))))), (10, .int (nI ((nxs ((ses (g 0) q (g 1) j d i).1)) / 65536 % (g 0)))), (0, .ref (ax 0)), (1, .int (nI j)), (2, .int (nI (k + 1))), (3, .int (nI d)), (4, .int (nI w)), (9, .int (nI i))]) hx hb dX7_sessions_139 hl (by decide) rfl (fun ls hl => ?_)
                  refine kn_iinc (k := 10) (x := i) (d := 1) (lv' := [(9, .int (nI (i + 1))), (8, .int (nI (((ses (g 0) q (g 1) j d i).2.2) + 0))), (7, .int (nI ((ses (g 0) q (g 1) j d i).2.1 + 1))), (11, .int (nI 1)), (5, .long (lN (nxs (nxs ((ses (g 0) q (g 1) j d i).1))))), (10, .int (nI ((nxs ((ses (g 0) q (g 1) j d i).1)) / 65536 % (g 0)))), (0, .ref (ax 0)), (1, .int (nI j)), (2, .int (nI (k + 1))), (3, .int (nI d)), (4, .int (nI w))]) hx hb dX7_sessions_141 hl rfl (by decide) rfl (fun ls hl => ?_)
                  refine lv_goto (tgt := 53) hx hb dX7_sessions_144 (by decide) ?_
                  have hl : lv_has ls 12 [(9, .int (nI (i + 1))), (8, .int (nI (((ses (g 0) q (g 1) j d i).2.2) + 0))), (7, .int (nI ((ses (g 0) q (g 1) j d (i + 1)).2.1))), (11, .int (nI 1)), (5, .long (lN (nxs (nxs ((ses (g 0) q (g 1) j d i).1))))), (10, .int (nI ((nxs ((ses (g 0) q (g 1) j d i).1)) / 65536 % (g 0)))), (0, .ref (ax 0)), (1, .int (nI j)), (2, .int (nI (k + 1))), (3, .int (nI d)), (4, .int (nI w))] := by
                    have e9 : nI ((ses (g 0) q (g 1) j d i).2.1 + 1) = nI ((ses (g 0) q (g 1) j d (i + 1)).2.1) := congrArg nI (ses_y1 true (by symm; exact decide_eq_true (show sew (g 0) q (g 1) j d i = j by unfold sew; omega)) (by unfold sec sew; omega))
                    rw [← e9]
                    exact hl
                  have hl : lv_has ls 12 [(9, .int (nI (i + 1))), (8, .int (nI ((ses (g 0) q (g 1) j d (i + 1)).2.2))), (7, .int (nI ((ses (g 0) q (g 1) j d (i + 1)).2.1))), (11, .int (nI 1)), (5, .long (lN (nxs (nxs ((ses (g 0) q (g 1) j d i).1))))), (10, .int (nI ((nxs ((ses (g 0) q (g 1) j d i).1)) / 65536 % (g 0)))), (0, .ref (ax 0)), (1, .int (nI j)), (2, .int (nI (k + 1))), (3, .int (nI d)), (4, .int (nI w))] := by
                    have e9 : nI (((ses (g 0) q (g 1) j d i).2.2) + 0) = nI ((ses (g 0) q (g 1) j d (i + 1)).2.2) := congrArg nI (ses_y2 true (by symm; exact decide_eq_true (show sew (g 0) q (g 1) j d i = j by unfold sew; omega)) (by unfold sec sew; omega))
                    rw [← e9]
                    exact hl
                  exact ih53 (()) _ (by omega) ⟨(by omega), nxs_lt _, lv_sub hl [6, 7, 8, 9, 10, 4, 2, 1, 0] rfl⟩
