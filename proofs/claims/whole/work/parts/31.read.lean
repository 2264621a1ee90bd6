set_option maxHeartbeats 4000000 in
set_option maxRecDepth 100000 in
theorem c_X7_isSuch (l : Launch) (D : va_G) (cy : Nat → ClassId) (ev : kz_V) (a k f o w : Nat) (hk : k < 5) (hw : w < 5) : Met l yX7_isSuch (.code yX7_isSuch cX7_isSuch 2 (some .boolean) :: WB) { frames := 0, cells := 0, slots := 0, locals := 0 } (ro_Pc D cy ev [.ref a, .int (nI w)] [zO a (pk k) [.int (nI f), .int (nI o)]]) (vp_Si (fun r => r = bI (isK k w))) 0 0 (fun _ => False) := by
  refine Met.ofW (cc := cX7_isSuch) (maxL := 2) (ret := (some .boolean)) (by decide) rfl ?_
  intro p e s m args below meth c s₁ B hml hv
  obtain ⟨rfl, hP, hK, hE⟩ := hv
  have hx := B.exec
  have hb := B.bytes
  have hr := B.returns
  have hlk := B.notSynchronized
  have hts : ∀ w ∈ WB, w.before _ s = true := fun w h => atoms_spec B.pre w (List.mem_cons_of_mem _ h)
  have hown : s.vm.findClass RX7 = some m.cls := findClass_of_methodNamed B.named
  have hl := lv_entry ([.ref a, .int (nI w)]) (n := 2) (Nat.le_of_ble_eq_true rfl)
  rw [lg_entry_eq]
  generalize (lg_sl ([.ref a, .int (nI w)]) ++ List.replicate (2 - (lg_sl ([.ref a, .int (nI w)])).length) Slot.unset).toArray = ls at hl ⊢
  have hl : lv_has ls 2 [(0, .ref a), (1, .int (nI w))] := hl
  rcases k_cases hk with rfl | rfl | rfl | rfl | rfl
  · skip
    have hP : va_P D vwCl [zO a 2 [.int (nI f), .int (nI o)]] s.heap := hP
    refine lv_iload_n hx hb dX7_isSuch_0 rfl (lv_at hl 1 rfl) ?_
    rcases (show w = 0 ∨ w = 1 ∨ w = 2 ∨ w = 3 ∨ w = 4 by omega) with rfl | rfl | rfl | rfl | rfl
    · skip
      refine lv_tableOut (tgt := 52) hx hb dX7_isSuch_1 (by decide) (by decide) ?_
      refine lv_iconst (v := nI 1) hx hb dX7_isSuch_52 (by decide) ?_
      exact ro_rz hx hb hr hlk dX7_isSuch_53 rfl (rfl)
    · skip
      refine lv_tableIn (tgt := 32) (off := 31) hx hb dX7_isSuch_1 (by decide) (by decide) rfl (by decide) ?_
      refine lv_aload_n hx hb dX7_isSuch_32 rfl (lv_at hl 0 rfl) ?_
      refine va_instNo (C := "DryLoaf$Person") hx hb hown (hts _ wm_425) (hE.1 ("DryLoaf$Person", "DryLoaf$Hardened") (by decide)) (kz_recv 0 hK hP rfl rfl) dX7_isSuch_33 ?_
      refine kn_as (st' := [.int (nI 0)]) rfl ?_
      exact ro_rz hx hb hr hlk dX7_isSuch_36 rfl (rfl)
    · skip
      refine lv_tableIn (tgt := 37) (off := 36) hx hb dX7_isSuch_1 (by decide) (by decide) rfl (by decide) ?_
      refine lv_aload_n hx hb dX7_isSuch_37 rfl (lv_at hl 0 rfl) ?_
      refine va_instNo (C := "DryLoaf$Person") hx hb hown (hts _ wm_426) (hE.1 ("DryLoaf$Person", "DryLoaf$Weeper") (by decide)) (kz_recv 0 hK hP rfl rfl) dX7_isSuch_38 ?_
      refine kn_as (st' := [.int (nI 0)]) rfl ?_
      exact ro_rz hx hb hr hlk dX7_isSuch_41 rfl (rfl)
    · skip
      refine lv_tableIn (tgt := 42) (off := 41) hx hb dX7_isSuch_1 (by decide) (by decide) rfl (by decide) ?_
      refine lv_aload_n hx hb dX7_isSuch_42 rfl (lv_at hl 0 rfl) ?_
      refine va_instNo (C := "DryLoaf$Person") hx hb hown (hts _ wm_427) (hE.1 ("DryLoaf$Person", "DryLoaf$Priest") (by decide)) (kz_recv 0 hK hP rfl rfl) dX7_isSuch_43 ?_
      refine kn_as (st' := [.int (nI 0)]) rfl ?_
      exact ro_rz hx hb hr hlk dX7_isSuch_46 rfl (rfl)
    · skip
      refine lv_tableIn (tgt := 47) (off := 46) hx hb dX7_isSuch_1 (by decide) (by decide) rfl (by decide) ?_
      refine lv_aload_n hx hb dX7_isSuch_47 rfl (lv_at hl 0 rfl) ?_
      refine va_instNo (C := "DryLoaf$Person") hx hb hown (hts _ wm_428) (hE.1 ("DryLoaf$Person", "DryLoaf$Thief") (by decide)) (kz_recv 0 hK hP rfl rfl) dX7_isSuch_48 ?_
      refine kn_as (st' := [.int (nI 0)]) rfl ?_
      exact ro_rz hx hb hr hlk dX7_isSuch_51 rfl (rfl)
  · skip
    have hP : va_P D vwCl [zO a 0 [.int (nI f), .int (nI o)]] s.heap := hP
    refine lv_iload_n hx hb dX7_isSuch_0 rfl (lv_at hl 1 rfl) ?_
    rcases (show w = 0 ∨ w = 1 ∨ w = 2 ∨ w = 3 ∨ w = 4 by omega) with rfl | rfl | rfl | rfl | rfl
    · skip
      refine lv_tableOut (tgt := 52) hx hb dX7_isSuch_1 (by decide) (by decide) ?_
      refine lv_iconst (v := nI 1) hx hb dX7_isSuch_52 (by decide) ?_
      exact ro_rz hx hb hr hlk dX7_isSuch_53 rfl (rfl)
    · skip
      refine lv_tableIn (tgt := 32) (off := 31) hx hb dX7_isSuch_1 (by decide) (by decide) rfl (by decide) ?_
      refine lv_aload_n hx hb dX7_isSuch_32 rfl (lv_at hl 0 rfl) ?_
      refine va_instS hx hb hown (hts _ wm_425) (hK.1 0 _ rfl).2 (kz_recv 0 hK hP rfl rfl) dX7_isSuch_33 ?_
      refine kn_as (st' := [.int (nI 1)]) rfl ?_
      exact ro_rz hx hb hr hlk dX7_isSuch_36 rfl (rfl)
    · skip
      refine lv_tableIn (tgt := 37) (off := 36) hx hb dX7_isSuch_1 (by decide) (by decide) rfl (by decide) ?_
      refine lv_aload_n hx hb dX7_isSuch_37 rfl (lv_at hl 0 rfl) ?_
      refine va_instNo (C := "DryLoaf$Hardened") hx hb hown (hts _ wm_426) (hE.1 ("DryLoaf$Hardened", "DryLoaf$Weeper") (by decide)) (kz_recv 0 hK hP rfl rfl) dX7_isSuch_38 ?_
      refine kn_as (st' := [.int (nI 0)]) rfl ?_
      exact ro_rz hx hb hr hlk dX7_isSuch_41 rfl (rfl)
    · skip
      refine lv_tableIn (tgt := 42) (off := 41) hx hb dX7_isSuch_1 (by decide) (by decide) rfl (by decide) ?_
      refine lv_aload_n hx hb dX7_isSuch_42 rfl (lv_at hl 0 rfl) ?_
      refine va_instNo (C := "DryLoaf$Hardened") hx hb hown (hts _ wm_427) (hE.1 ("DryLoaf$Hardened", "DryLoaf$Priest") (by decide)) (kz_recv 0 hK hP rfl rfl) dX7_isSuch_43 ?_
      refine kn_as (st' := [.int (nI 0)]) rfl ?_
      exact ro_rz hx hb hr hlk dX7_isSuch_46 rfl (rfl)
    · skip
      refine lv_tableIn (tgt := 47) (off := 46) hx hb dX7_isSuch_1 (by decide) (by decide) rfl (by decide) ?_
      refine lv_aload_n hx hb dX7_isSuch_47 rfl (lv_at hl 0 rfl) ?_
      refine va_instNo (C := "DryLoaf$Hardened") hx hb hown (hts _ wm_428) (hE.1 ("DryLoaf$Hardened", "DryLoaf$Thief") (by decide)) (kz_recv 0 hK hP rfl rfl) dX7_isSuch_48 ?_
      refine kn_as (st' := [.int (nI 0)]) rfl ?_
      exact ro_rz hx hb hr hlk dX7_isSuch_51 rfl (rfl)
  · skip
    have hP : va_P D vwCl [zO a 6 [.int (nI f), .int (nI o)]] s.heap := hP
    refine lv_iload_n hx hb dX7_isSuch_0 rfl (lv_at hl 1 rfl) ?_
    rcases (show w = 0 ∨ w = 1 ∨ w = 2 ∨ w = 3 ∨ w = 4 by omega) with rfl | rfl | rfl | rfl | rfl
    · skip
      refine lv_tableOut (tgt := 52) hx hb dX7_isSuch_1 (by decide) (by decide) ?_
      refine lv_iconst (v := nI 1) hx hb dX7_isSuch_52 (by decide) ?_
      exact ro_rz hx hb hr hlk dX7_isSuch_53 rfl (rfl)
    · skip
      refine lv_tableIn (tgt := 32) (off := 31) hx hb dX7_isSuch_1 (by decide) (by decide) rfl (by decide) ?_
      refine lv_aload_n hx hb dX7_isSuch_32 rfl (lv_at hl 0 rfl) ?_
      refine va_instNo (C := "DryLoaf$Weeper") hx hb hown (hts _ wm_425) (hE.1 ("DryLoaf$Weeper", "DryLoaf$Hardened") (by decide)) (kz_recv 0 hK hP rfl rfl) dX7_isSuch_33 ?_
      refine kn_as (st' := [.int (nI 0)]) rfl ?_
      exact ro_rz hx hb hr hlk dX7_isSuch_36 rfl (rfl)
    · skip
      refine lv_tableIn (tgt := 37) (off := 36) hx hb dX7_isSuch_1 (by decide) (by decide) rfl (by decide) ?_
      refine lv_aload_n hx hb dX7_isSuch_37 rfl (lv_at hl 0 rfl) ?_
      refine va_instS hx hb hown (hts _ wm_426) (hK.1 6 _ rfl).2 (kz_recv 0 hK hP rfl rfl) dX7_isSuch_38 ?_
      refine kn_as (st' := [.int (nI 1)]) rfl ?_
      exact ro_rz hx hb hr hlk dX7_isSuch_41 rfl (rfl)
    · skip
      refine lv_tableIn (tgt := 42) (off := 41) hx hb dX7_isSuch_1 (by decide) (by decide) rfl (by decide) ?_
      refine lv_aload_n hx hb dX7_isSuch_42 rfl (lv_at hl 0 rfl) ?_
      refine va_instNo (C := "DryLoaf$Weeper") hx hb hown (hts _ wm_427) (hE.1 ("DryLoaf$Weeper", "DryLoaf$Priest") (by decide)) (kz_recv 0 hK hP rfl rfl) dX7_isSuch_43 ?_
      refine kn_as (st' := [.int (nI 0)]) rfl ?_
      exact ro_rz hx hb hr hlk dX7_isSuch_46 rfl (rfl)
    · skip
      refine lv_tableIn (tgt := 47) (off := 46) hx hb dX7_isSuch_1 (by decide) (by decide) rfl (by decide) ?_
      refine lv_aload_n hx hb dX7_isSuch_47 rfl (lv_at hl 0 rfl) ?_
      refine va_instNo (C := "DryLoaf$Weeper") hx hb hown (hts _ wm_428) (hE.1 ("DryLoaf$Weeper", "DryLoaf$Thief") (by decide)) (kz_recv 0 hK hP rfl rfl) dX7_isSuch_48 ?_
      refine kn_as (st' := [.int (nI 0)]) rfl ?_
      exact ro_rz hx hb hr hlk dX7_isSuch_51 rfl (rfl)
  · skip
    have hP : va_P D vwCl [zO a 3 [.int (nI f), .int (nI o)]] s.heap := hP
    refine lv_iload_n hx hb dX7_isSuch_0 rfl (lv_at hl 1 rfl) ?_
    rcases (show w = 0 ∨ w = 1 ∨ w = 2 ∨ w = 3 ∨ w = 4 by omega) with rfl | rfl | rfl | rfl | rfl
    · skip
      refine lv_tableOut (tgt := 52) hx hb dX7_isSuch_1 (by decide) (by decide) ?_
      refine lv_iconst (v := nI 1) hx hb dX7_isSuch_52 (by decide) ?_
      exact ro_rz hx hb hr hlk dX7_isSuch_53 rfl (rfl)
    · skip
      refine lv_tableIn (tgt := 32) (off := 31) hx hb dX7_isSuch_1 (by decide) (by decide) rfl (by decide) ?_
      refine lv_aload_n hx hb dX7_isSuch_32 rfl (lv_at hl 0 rfl) ?_
      refine va_instNo (C := "DryLoaf$Priest") hx hb hown (hts _ wm_425) (hE.1 ("DryLoaf$Priest", "DryLoaf$Hardened") (by decide)) (kz_recv 0 hK hP rfl rfl) dX7_isSuch_33 ?_
      refine kn_as (st' := [.int (nI 0)]) rfl ?_
      exact ro_rz hx hb hr hlk dX7_isSuch_36 rfl (rfl)
    · skip
      refine lv_tableIn (tgt := 37) (off := 36) hx hb dX7_isSuch_1 (by decide) (by decide) rfl (by decide) ?_
      refine lv_aload_n hx hb dX7_isSuch_37 rfl (lv_at hl 0 rfl) ?_
      refine va_instNo (C := "DryLoaf$Priest") hx hb hown (hts _ wm_426) (hE.1 ("DryLoaf$Priest", "DryLoaf$Weeper") (by decide)) (kz_recv 0 hK hP rfl rfl) dX7_isSuch_38 ?_
      refine kn_as (st' := [.int (nI 0)]) rfl ?_
      exact ro_rz hx hb hr hlk dX7_isSuch_41 rfl (rfl)
    · skip
      refine lv_tableIn (tgt := 42) (off := 41) hx hb dX7_isSuch_1 (by decide) (by decide) rfl (by decide) ?_
      refine lv_aload_n hx hb dX7_isSuch_42 rfl (lv_at hl 0 rfl) ?_
      refine va_instS hx hb hown (hts _ wm_427) (hK.1 3 _ rfl).2 (kz_recv 0 hK hP rfl rfl) dX7_isSuch_43 ?_
      refine kn_as (st' := [.int (nI 1)]) rfl ?_
      exact ro_rz hx hb hr hlk dX7_isSuch_46 rfl (rfl)
    · skip
      refine lv_tableIn (tgt := 47) (off := 46) hx hb dX7_isSuch_1 (by decide) (by decide) rfl (by decide) ?_
      refine lv_aload_n hx hb dX7_isSuch_47 rfl (lv_at hl 0 rfl) ?_
      refine va_instNo (C := "DryLoaf$Priest") hx hb hown (hts _ wm_428) (hE.1 ("DryLoaf$Priest", "DryLoaf$Thief") (by decide)) (kz_recv 0 hK hP rfl rfl) dX7_isSuch_48 ?_
      refine kn_as (st' := [.int (nI 0)]) rfl ?_
      exact ro_rz hx hb hr hlk dX7_isSuch_51 rfl (rfl)
  · skip
    have hP : va_P D vwCl [zO a 5 [.int (nI f), .int (nI o)]] s.heap := hP
    refine lv_iload_n hx hb dX7_isSuch_0 rfl (lv_at hl 1 rfl) ?_
    rcases (show w = 0 ∨ w = 1 ∨ w = 2 ∨ w = 3 ∨ w = 4 by omega) with rfl | rfl | rfl | rfl | rfl
    · skip
      refine lv_tableOut (tgt := 52) hx hb dX7_isSuch_1 (by decide) (by decide) ?_
      refine lv_iconst (v := nI 1) hx hb dX7_isSuch_52 (by decide) ?_
      exact ro_rz hx hb hr hlk dX7_isSuch_53 rfl (rfl)
    · skip
      refine lv_tableIn (tgt := 32) (off := 31) hx hb dX7_isSuch_1 (by decide) (by decide) rfl (by decide) ?_
      refine lv_aload_n hx hb dX7_isSuch_32 rfl (lv_at hl 0 rfl) ?_
      refine va_instY (C := "DryLoaf$Thief") hx hb hown (hts _ wm_425) (hE.2.2.2.2.1 ("DryLoaf$Thief", "DryLoaf$Hardened") (by decide)) (kz_recv 0 hK hP rfl rfl) dX7_isSuch_33 ?_
      refine kn_as (st' := [.int (nI 1)]) rfl ?_
      exact ro_rz hx hb hr hlk dX7_isSuch_36 rfl (rfl)
    · skip
      refine lv_tableIn (tgt := 37) (off := 36) hx hb dX7_isSuch_1 (by decide) (by decide) rfl (by decide) ?_
      refine lv_aload_n hx hb dX7_isSuch_37 rfl (lv_at hl 0 rfl) ?_
      refine va_instNo (C := "DryLoaf$Thief") hx hb hown (hts _ wm_426) (hE.1 ("DryLoaf$Thief", "DryLoaf$Weeper") (by decide)) (kz_recv 0 hK hP rfl rfl) dX7_isSuch_38 ?_
      refine kn_as (st' := [.int (nI 0)]) rfl ?_
      exact ro_rz hx hb hr hlk dX7_isSuch_41 rfl (rfl)
    · skip
      refine lv_tableIn (tgt := 42) (off := 41) hx hb dX7_isSuch_1 (by decide) (by decide) rfl (by decide) ?_
      refine lv_aload_n hx hb dX7_isSuch_42 rfl (lv_at hl 0 rfl) ?_
      refine va_instNo (C := "DryLoaf$Thief") hx hb hown (hts _ wm_427) (hE.1 ("DryLoaf$Thief", "DryLoaf$Priest") (by decide)) (kz_recv 0 hK hP rfl rfl) dX7_isSuch_43 ?_
      refine kn_as (st' := [.int (nI 0)]) rfl ?_
      exact ro_rz hx hb hr hlk dX7_isSuch_46 rfl (rfl)
    · skip
      refine lv_tableIn (tgt := 47) (off := 46) hx hb dX7_isSuch_1 (by decide) (by decide) rfl (by decide) ?_
      refine lv_aload_n hx hb dX7_isSuch_47 rfl (lv_at hl 0 rfl) ?_
      refine va_instS hx hb hown (hts _ wm_428) (hK.1 5 _ rfl).2 (kz_recv 0 hK hP rfl rfl) dX7_isSuch_48 ?_
      refine kn_as (st' := [.int (nI 1)]) rfl ?_
      exact ro_rz hx hb hr hlk dX7_isSuch_51 rfl (rfl)
set_option maxHeartbeats 4000000 in
set_option maxRecDepth 100000 in
theorem c_X7_about (l : Launch) (D : va_G) (cy : Nat → ClassId) (ev : kz_V) (ax : Nat → Nat) (g : Nat → Nat) (q : Nat → Nat → Nat) (bt : Nat → Nat → Int32) (rv : Nat → Nat → Nat) (pf : Nat → Option Nat) (pa : Nat → Nat) (pz : va_W) (hI : XI g q) (hZ : XP g q pf pa pz) (x y : Int32) : Met l yX7_about (.code yX7_about cX7_about 4 (some .int) :: WB) { frames := 3, cells := 0, slots := 0, locals := 66 } (ro_Pc D cy ev [.ref (ax 0), .int x, .int y] ([zO (ax 0) 7 [.ref (ax 1), .ref (ax 3), .ref (ax 4), .ref (ax 10), .ref (ax 16), .int (nI (g 0)), .int (nI (g 4)), .int (nI (g 6)), .int (nI (g 5))], zO (ax 1) 1 [.ref (ax 2), .int (nI (g 3))], zI cy (ax 2) 18 (fun i9 => nI ((q 7) i9)), zQ cy (ax 3) 4 pf, zO (ax 4) 4 [.ref (ax 5), .ref (ax 6), .ref (ax 7), .ref (ax 8), .ref (ax 9), .int (nI (g 2)), .int (nI (g 1))], zI cy (ax 5) 4 (fun i9 => nI ((q 3) i9)), zJ cy (ax 6) 4 (fun i9 => lN ((q 4) i9)), zI cy (ax 7) 4 (fun i9 => nI ((q 5) i9)), zI cy (ax 8) 4 (fun i9 => nI ((q 6) i9)), zI cy (ax 9) 4 (bt 0), zO (ax 10) 4 [.ref (ax 11), .ref (ax 12), .ref (ax 13), .ref (ax 14), .ref (ax 15), .int (nI (g 8)), .int (nI (g 7))], zI cy (ax 11) 4 (fun i9 => nI ((q 8) i9)), zJ cy (ax 12) 4 (fun i9 => lN ((q 9) i9)), zI cy (ax 13) 4 (fun i9 => nI ((q 10) i9)), zI cy (ax 14) 4 (fun i9 => nI ((q 11) i9)), zI cy (ax 15) 4 (bt 1), zG cy (ax 16) 4 (fun i => if i < 4 then some (ax (17 + i)) else none), zJ cy (ax 17) 4 (fun i9 => lN ((rv 0) i9)), zJ cy (ax 18) 4 (fun i9 => lN ((rv 1) i9)), zJ cy (ax 19) 4 (fun i9 => lN ((rv 2) i9)), zJ cy (ax 20) 4 (fun i9 => lN ((rv 3) i9))] ++ pz)) (vp_Si (fun r => r = F_about g q x y)) 0 0 (fun _ => False) := by
  refine Met.ofW (cc := cX7_about) (maxL := 4) (ret := (some .int)) (by decide) rfl ?_
  intro p e s m args below meth c s₁ B hml hv
  obtain ⟨rfl, hP, hK, hE⟩ := hv
  have hx := B.exec
  have hb := B.bytes
  have hr := B.returns
  have hlk := B.notSynchronized
  have hts : ∀ w ∈ WB, w.before _ s = true := fun w h => atoms_spec B.pre w (List.mem_cons_of_mem _ h)
  have hown : s.vm.findClass RX7 = some m.cls := findClass_of_methodNamed B.named
  have hl := lv_entry ([.ref (ax 0), .int x, .int y]) (n := 4) (Nat.le_of_ble_eq_true rfl)
  rw [lg_entry_eq]
  generalize (lg_sl ([.ref (ax 0), .int x, .int y]) ++ List.replicate (4 - (lg_sl ([.ref (ax 0), .int x, .int y])).length) Slot.unset).toArray = ls at hl ⊢
  have hl : lv_has ls 4 [(0, .ref (ax 0)), (1, .int x), (2, .int y)] := hl
  have hn4 := hI.n
  have hn2 := hI.n2
  have hdry := hI.dry
  rcases hi_x : ix (g 0) x with _ | j
  · skip
    have hn_x := ix_none hi_x
    refine lv_aload_n hx hb dX7_about_0 rfl (lv_at hl 0 rfl) ?_
    refine lv_iload_n hx hb dX7_about_1 rfl (lv_at hl 1 rfl) ?_
    refine ro_Vq (As := [.int x]) (rest := []) (v := none) ⟨hx, hb, hml, hown, hts⟩ (c_X7_personAt_n l D cy ev ax g q bt rv pf x hi_x hI.n) (kz_cwV 1 hts wm_326 wm_323 wm_324 wm_325 wm_2 rfl rfl (by decide +kernel) ⟨Nat.le_of_ble_eq_true rfl, Nat.le_of_ble_eq_true rfl⟩) hK hE (hP.sub (ws' := [zO (ax 0) 7 [.ref (ax 1), .ref (ax 3), .ref (ax 4), .ref (ax 10), .ref (ax 16), .int (nI (g 0)), .int (nI (g 4)), .int (nI (g 6)), .int (nI (g 5))], zQ cy (ax 3) 4 pf]) [0, 3] rfl) (kz_recv 0 hK hP rfl rfl) rfl hl.1 rfl (Nat.le_of_ble_eq_true rfl) dX7_about_2 ⟨Nat.le_of_ble_eq_true rfl, Nat.le_of_ble_eq_true rfl⟩ ?_
    refine kn_as (st' := [.null]) rfl ?_
    refine lv_astore_nN (lv' := [(3, .null), (0, .ref (ax 0)), (1, .int x), (2, .int y)]) hx hb dX7_about_5 rfl hl (by decide) rfl (fun ls hl => ?_)
    refine lv_aload_nN hx hb dX7_about_6 rfl (lv_at hl 0 rfl) ?_
    refine lv_ifnonnullN hx hb dX7_about_7 ?_
    refine lv_bipush (v := (-101)) hx hb dX7_about_10 (by decide) ?_
    exact ro_ri hx hb hr hlk dX7_about_12 (by unfold F_about; rw [hi_x])
  · skip
    obtain ⟨hj, rfl⟩ := ix_some hi_x
    have hper := hI.per j hj
    have hbu9 := hI.bu j
    have hw6 := hI.w6 j
    refine lv_aload_n hx hb dX7_about_0 rfl (lv_at hl 0 rfl) ?_
    refine lv_iload_n hx hb dX7_about_1 rfl (lv_at hl 1 rfl) ?_
    refine ro_Vq (As := [.int (nI j)]) (rest := []) (v := some (pa j)) ⟨hx, hb, hml, hown, hts⟩ (c_X7_personAt_s l D cy ev ax g q bt rv pf pa j (by omega) hI.n (hZ j (by omega)).1) (kz_cwV 1 hts wm_326 wm_323 wm_324 wm_325 wm_2 rfl rfl (by decide +kernel) ⟨Nat.le_of_ble_eq_true rfl, Nat.le_of_ble_eq_true rfl⟩) hK hE (hP.sub (ws' := [zO (ax 0) 7 [.ref (ax 1), .ref (ax 3), .ref (ax 4), .ref (ax 10), .ref (ax 16), .int (nI (g 0)), .int (nI (g 4)), .int (nI (g 6)), .int (nI (g 5))], zQ cy (ax 3) 4 pf]) [0, 3] rfl) (kz_recv 0 hK hP rfl rfl) rfl hl.1 rfl (Nat.le_of_ble_eq_true rfl) dX7_about_2 ⟨Nat.le_of_ble_eq_true rfl, Nat.le_of_ble_eq_true rfl⟩ ?_
    refine kn_as (st' := [.ref (pa j)]) rfl ?_
    refine lv_astore_n (lv' := [(3, .ref (pa j)), (0, .ref (ax 0)), (1, .int (nI j)), (2, .int y)]) hx hb dX7_about_5 rfl hl (by decide) rfl (fun ls hl => ?_)
    refine lv_aload_n hx hb dX7_about_6 rfl (lv_at hl 0 rfl) ?_
    refine lv_ifnonnull (tgt := 13) hx hb dX7_about_7 (by decide) ?_
    refine lv_iload_n hx hb dX7_about_13 rfl (lv_at hl 3 rfl) ?_
    rcases hs14 : ix 9 y with _ | k14
    · skip
      have hsn := ix_none hs14
      refine lv_tableOut (tgt := 165) hx hb dX7_about_14 (by omega) (by decide) ?_
      refine lv_bipush (v := (-102)) hx hb dX7_about_165 (by decide) ?_
      exact ro_ri hx hb hr hlk dX7_about_167 (by unfold F_about; rw [hi_x, hs14])
    · skip
      obtain ⟨hk14, rfl⟩ := ix_some hs14
      rcases (show k14 = 0 ∨ k14 = 1 ∨ k14 = 2 ∨ k14 = 3 ∨ k14 = 4 ∨ k14 = 5 ∨ k14 = 6 ∨ k14 = 7 ∨ k14 = 8 by omega) with rfl | rfl | rfl | rfl | rfl | rfl | rfl | rfl | rfl
      · skip
        refine lv_tableIn (tgt := 64) (off := 50) hx hb dX7_about_14 (by decide) (by decide) rfl (by decide) ?_
        refine lv_aload_n hx hb dX7_about_64 rfl (lv_at hl 0 rfl) ?_
        refine pv_kind_X7 (rest := []) hx hb (hml.trans hl.1.symm) hown hts hK hE hP.right j (hI.per j (by omega)).1 (hZ j (by omega)).2  ⟨Nat.le_of_ble_eq_true rfl, Nat.le_of_ble_eq_true rfl⟩ (Nat.le_of_ble_eq_true rfl) dX7_about_65 ⟨Nat.le_of_ble_eq_true rfl, Nat.le_of_ble_eq_true rfl⟩ ?_
        exact ro_ri hx hb hr hlk dX7_about_68 (by unfold F_about; rw [hi_x, hs14]; rfl)
      · skip
        refine lv_tableIn (tgt := 69) (off := 55) hx hb dX7_about_14 (by decide) (by decide) rfl (by decide) ?_
        refine lv_aload_n hx hb dX7_about_69 rfl (lv_at hl 0 rfl) ?_
        refine pv_fear_X7 hx hb hown hts hK hP.right j (hI.per j (by omega)).1 (hZ j (by omega)).2 dX7_about_70 ?_
        exact ro_ri hx hb hr hlk dX7_about_73 (by unfold F_about; rw [hi_x, hs14]; rfl)
      · skip
        refine lv_tableIn (tgt := 74) (off := 60) hx hb dX7_about_14 (by decide) (by decide) rfl (by decide) ?_
        refine lv_aload_n hx hb dX7_about_74 rfl (lv_at hl 0 rfl) ?_
        refine pv_odds_X7 hx hb hown hts hK hP.right j (hI.per j (by omega)).1 (hZ j (by omega)).2 dX7_about_75 ?_
        exact ro_ri hx hb hr hlk dX7_about_78 (by unfold F_about; rw [hi_x, hs14]; rfl)
      · skip
        refine lv_tableIn (tgt := 79) (off := 65) hx hb dX7_about_14 (by decide) (by decide) rfl (by decide) ?_
        refine lv_aload_n hx hb dX7_about_79 rfl (lv_at hl 1 rfl) ?_
        refine va_get (ci := 7) (C := RX7) (T := TX7) (N := 9) hx hb hts inX7 hown hK hP 0 rfl rfl 2 (by decide) (hts _ wm_21) (fun _ h9 => h9) rfl dX7_about_80 ?_
        refine va_get (ci := 4) (C := RX4) (T := TX4) (N := 7) hx hb hts inX4 hown hK hP 4 rfl rfl 0 (by decide) (hts _ wm_319) (fun _ h9 => h9) rfl dX7_about_83 ?_
        refine lv_iload_n hx hb dX7_about_86 rfl (lv_at hl 2 rfl) ?_
        refine kn_iald (v := nI ((q 3) j)) hx hb hK hP 5 rfl (by omega) (by decide) rfl dX7_about_87 ?_
        exact ro_ri hx hb hr hlk dX7_about_88 (by unfold F_about; rw [hi_x, hs14]; rfl)
      · skip
        refine lv_tableIn (tgt := 89) (off := 75) hx hb dX7_about_14 (by decide) (by decide) rfl (by decide) ?_
        refine lv_aload_n hx hb dX7_about_89 rfl (lv_at hl 0 rfl) ?_
        refine lv_iconst (v := nI 1) hx hb dX7_about_90 (by decide) ?_
        refine lv_aload_n hx hb dX7_about_91 rfl (lv_at hl 1 rfl) ?_
        refine va_get (ci := 7) (C := RX7) (T := TX7) (N := 9) hx hb hts inX7 hown hK hP 0 rfl rfl 2 (by decide) (hts _ wm_21) (fun _ h9 => h9) rfl dX7_about_92 ?_
        refine va_get (ci := 4) (C := RX4) (T := TX4) (N := 7) hx hb hts inX4 hown hK hP 4 rfl rfl 6 (by decide) (hts _ wm_320) (fun _ h9 => h9) rfl dX7_about_95 ?_
        refine lv_aload_n hx hb dX7_about_98 rfl (lv_at hl 1 rfl) ?_
        refine va_get (ci := 7) (C := RX7) (T := TX7) (N := 9) hx hb hts inX7 hown hK hP 0 rfl rfl 2 (by decide) (hts _ wm_21) (fun _ h9 => h9) rfl dX7_about_99 ?_
        refine va_get (ci := 4) (C := RX4) (T := TX4) (N := 7) hx hb hts inX4 hown hK hP 4 rfl rfl 0 (by decide) (hts _ wm_319) (fun _ h9 => h9) rfl dX7_about_102 ?_
        refine lv_iload_n hx hb dX7_about_105 rfl (lv_at hl 2 rfl) ?_
        refine kn_iald (v := nI ((q 3) j)) hx hb hK hP 5 rfl (by omega) (by decide) rfl dX7_about_106 ?_
        refine kn_as (st' := [.int (nI ((q 3) j)), .int (nI (g 1)), .int (bI true), .ref (pa j)]) rfl ?_
        refine pv_tenths_X7 (rest := []) hx hb (hml.trans hl.1.symm) hown hts hK hE hP.right j (hI.per j (by omega)).1 (hZ j (by omega)).2 (hI.per j (by omega)).2.1 (by omega) (by omega) ⟨Nat.le_of_ble_eq_true rfl, Nat.le_of_ble_eq_true rfl⟩ (Nat.le_of_ble_eq_true rfl) dX7_about_107 ⟨Nat.le_of_ble_eq_true rfl, Nat.le_of_ble_eq_true rfl⟩ ?_
        have ht107 : tn (dn (q 0 j) (q 1 j) true) (g 1) ((q 3) j) ≤ 10 := tn_le _ _ _
        exact ro_ri hx hb hr hlk dX7_about_110 (by unfold F_about; rw [hi_x, hs14]; rfl)
      · skip
        refine lv_tableIn (tgt := 111) (off := 97) hx hb dX7_about_14 (by decide) (by decide) rfl (by decide) ?_
        refine lv_aload_n hx hb dX7_about_111 rfl (lv_at hl 0 rfl) ?_
        refine lv_iconst (v := nI 0) hx hb dX7_about_112 (by decide) ?_
        refine lv_aload_n hx hb dX7_about_113 rfl (lv_at hl 1 rfl) ?_
        refine va_get (ci := 7) (C := RX7) (T := TX7) (N := 9) hx hb hts inX7 hown hK hP 0 rfl rfl 2 (by decide) (hts _ wm_21) (fun _ h9 => h9) rfl dX7_about_114 ?_
        refine va_get (ci := 4) (C := RX4) (T := TX4) (N := 7) hx hb hts inX4 hown hK hP 4 rfl rfl 6 (by decide) (hts _ wm_320) (fun _ h9 => h9) rfl dX7_about_117 ?_
        refine lv_aload_n hx hb dX7_about_120 rfl (lv_at hl 1 rfl) ?_
        refine va_get (ci := 7) (C := RX7) (T := TX7) (N := 9) hx hb hts inX7 hown hK hP 0 rfl rfl 2 (by decide) (hts _ wm_21) (fun _ h9 => h9) rfl dX7_about_121 ?_
        refine va_get (ci := 4) (C := RX4) (T := TX4) (N := 7) hx hb hts inX4 hown hK hP 4 rfl rfl 0 (by decide) (hts _ wm_319) (fun _ h9 => h9) rfl dX7_about_124 ?_
        refine lv_iload_n hx hb dX7_about_127 rfl (lv_at hl 2 rfl) ?_
        refine kn_iald (v := nI ((q 3) j)) hx hb hK hP 5 rfl (by omega) (by decide) rfl dX7_about_128 ?_
        refine kn_as (st' := [.int (nI ((q 3) j)), .int (nI (g 1)), .int (bI false), .ref (pa j)]) rfl ?_
        refine pv_tenths_X7 (rest := []) hx hb (hml.trans hl.1.symm) hown hts hK hE hP.right j (hI.per j (by omega)).1 (hZ j (by omega)).2 (hI.per j (by omega)).2.1 (by omega) (by omega) ⟨Nat.le_of_ble_eq_true rfl, Nat.le_of_ble_eq_true rfl⟩ (Nat.le_of_ble_eq_true rfl) dX7_about_129 ⟨Nat.le_of_ble_eq_true rfl, Nat.le_of_ble_eq_true rfl⟩ ?_
        have ht129 : tn (dn (q 0 j) (q 1 j) false) (g 1) ((q 3) j) ≤ 10 := tn_le _ _ _
        exact ro_ri hx hb hr hlk dX7_about_132 (by unfold F_about; rw [hi_x, hs14]; rfl)
      · skip
        refine lv_tableIn (tgt := 133) (off := 119) hx hb dX7_about_14 (by decide) (by decide) rfl (by decide) ?_
        refine lv_aload_n hx hb dX7_about_133 rfl (lv_at hl 1 rfl) ?_
        refine va_get (ci := 7) (C := RX7) (T := TX7) (N := 9) hx hb hts inX7 hown hK hP 0 rfl rfl 2 (by decide) (hts _ wm_21) (fun _ h9 => h9) rfl dX7_about_134 ?_
        refine va_get (ci := 4) (C := RX4) (T := TX4) (N := 7) hx hb hts inX4 hown hK hP 4 rfl rfl 2 (by decide) (hts _ wm_321) (fun _ h9 => h9) rfl dX7_about_137 ?_
        refine lv_iload_n hx hb dX7_about_140 rfl (lv_at hl 2 rfl) ?_
        refine kn_iald (v := nI ((q 5) j)) hx hb hK hP 7 rfl (by omega) (by decide) rfl dX7_about_141 ?_
        exact ro_ri hx hb hr hlk dX7_about_142 (by unfold F_about; rw [hi_x, hs14]; rfl)
      · skip
        refine lv_tableIn (tgt := 143) (off := 129) hx hb dX7_about_14 (by decide) (by decide) rfl (by decide) ?_
        refine lv_aload_n hx hb dX7_about_143 rfl (lv_at hl 1 rfl) ?_
        refine va_get (ci := 7) (C := RX7) (T := TX7) (N := 9) hx hb hts inX7 hown hK hP 0 rfl rfl 2 (by decide) (hts _ wm_21) (fun _ h9 => h9) rfl dX7_about_144 ?_
        refine va_get (ci := 4) (C := RX4) (T := TX4) (N := 7) hx hb hts inX4 hown hK hP 4 rfl rfl 3 (by decide) (hts _ wm_322) (fun _ h9 => h9) rfl dX7_about_147 ?_
        refine lv_iload_n hx hb dX7_about_150 rfl (lv_at hl 2 rfl) ?_
        refine kn_iald (v := nI ((q 6) j)) hx hb hK hP 8 rfl (by omega) (by decide) rfl dX7_about_151 ?_
        exact ro_ri hx hb hr hlk dX7_about_152 (by unfold F_about; rw [hi_x, hs14]; rfl)
      · skip
        refine lv_tableIn (tgt := 153) (off := 139) hx hb dX7_about_14 (by decide) (by decide) rfl (by decide) ?_
        refine lv_aload_n hx hb dX7_about_153 rfl (lv_at hl 0 rfl) ?_
        refine lv_aload_n hx hb dX7_about_154 rfl (lv_at hl 1 rfl) ?_
        refine va_get (ci := 7) (C := RX7) (T := TX7) (N := 9) hx hb hts inX7 hown hK hP 0 rfl rfl 2 (by decide) (hts _ wm_21) (fun _ h9 => h9) rfl dX7_about_155 ?_
        refine va_get (ci := 4) (C := RX4) (T := TX4) (N := 7) hx hb hts inX4 hown hK hP 4 rfl rfl 6 (by decide) (hts _ wm_320) (fun _ h9 => h9) rfl dX7_about_158 ?_
        refine pv_need_X7 (rest := []) hx hb (hml.trans hl.1.symm) hown hts hK hE hP.right j (hI.per j (by omega)).1 (hZ j (by omega)).2 (hI.per j (by omega)).2.1 (by omega) ⟨Nat.le_of_ble_eq_true rfl, Nat.le_of_ble_eq_true rfl⟩ (Nat.le_of_ble_eq_true rfl) dX7_about_161 ⟨Nat.le_of_ble_eq_true rfl, Nat.le_of_ble_eq_true rfl⟩ ?_
        exact ro_ri hx hb hr hlk dX7_about_164 (by unfold F_about; rw [hi_x, hs14]; rfl)
set_option maxHeartbeats 4000000 in
set_option maxRecDepth 100000 in
theorem c_X7_as (l : Launch) (D : va_G) (cy : Nat → ClassId) (ev : kz_V) (ax : Nat → Nat) (g : Nat → Nat) (q : Nat → Nat → Nat) (bt : Nat → Nat → Int32) (rv : Nat → Nat → Nat) (pf : Nat → Option Nat) (pa : Nat → Nat) (pz : va_W) (hI : XI g q) (hZ : XP g q pf pa pz) (x y : Int32) : Met l yX7_as (.code yX7_as cX7_as 4 (some .int) :: WB) { frames := 1, cells := 0, slots := 0, locals := 21 } (ro_Pc D cy ev [.ref (ax 0), .int x, .int y] ([zO (ax 0) 7 [.ref (ax 1), .ref (ax 3), .ref (ax 4), .ref (ax 10), .ref (ax 16), .int (nI (g 0)), .int (nI (g 4)), .int (nI (g 6)), .int (nI (g 5))], zO (ax 1) 1 [.ref (ax 2), .int (nI (g 3))], zI cy (ax 2) 18 (fun i9 => nI ((q 7) i9)), zQ cy (ax 3) 4 pf, zO (ax 4) 4 [.ref (ax 5), .ref (ax 6), .ref (ax 7), .ref (ax 8), .ref (ax 9), .int (nI (g 2)), .int (nI (g 1))], zI cy (ax 5) 4 (fun i9 => nI ((q 3) i9)), zJ cy (ax 6) 4 (fun i9 => lN ((q 4) i9)), zI cy (ax 7) 4 (fun i9 => nI ((q 5) i9)), zI cy (ax 8) 4 (fun i9 => nI ((q 6) i9)), zI cy (ax 9) 4 (bt 0), zO (ax 10) 4 [.ref (ax 11), .ref (ax 12), .ref (ax 13), .ref (ax 14), .ref (ax 15), .int (nI (g 8)), .int (nI (g 7))], zI cy (ax 11) 4 (fun i9 => nI ((q 8) i9)), zJ cy (ax 12) 4 (fun i9 => lN ((q 9) i9)), zI cy (ax 13) 4 (fun i9 => nI ((q 10) i9)), zI cy (ax 14) 4 (fun i9 => nI ((q 11) i9)), zI cy (ax 15) 4 (bt 1), zG cy (ax 16) 4 (fun i => if i < 4 then some (ax (17 + i)) else none), zJ cy (ax 17) 4 (fun i9 => lN ((rv 0) i9)), zJ cy (ax 18) 4 (fun i9 => lN ((rv 1) i9)), zJ cy (ax 19) 4 (fun i9 => lN ((rv 2) i9)), zJ cy (ax 20) 4 (fun i9 => lN ((rv 3) i9))] ++ pz)) (vp_Si (fun r => r = F_as g q x y)) 0 0 (fun _ => False) := by
  refine Met.ofW (cc := cX7_as) (maxL := 4) (ret := (some .int)) (by decide) rfl ?_
  intro p e s m args below meth c s₁ B hml hv
  obtain ⟨rfl, hP, hK, hE⟩ := hv
  have hx := B.exec
  have hb := B.bytes
  have hr := B.returns
  have hlk := B.notSynchronized
  have hts : ∀ w ∈ WB, w.before _ s = true := fun w h => atoms_spec B.pre w (List.mem_cons_of_mem _ h)
  have hown : s.vm.findClass RX7 = some m.cls := findClass_of_methodNamed B.named
  have hl := lv_entry ([.ref (ax 0), .int x, .int y]) (n := 4) (Nat.le_of_ble_eq_true rfl)
  rw [lg_entry_eq]
  generalize (lg_sl ([.ref (ax 0), .int x, .int y]) ++ List.replicate (4 - (lg_sl ([.ref (ax 0), .int x, .int y])).length) Slot.unset).toArray = ls at hl ⊢
  have hl : lv_has ls 4 [(0, .ref (ax 0)), (1, .int x), (2, .int y)] := hl
  have hn4 := hI.n
  have hn2 := hI.n2
  have hdry := hI.dry
  rcases hi_x : ix (g 0) x with _ | j
  · skip
    have hn_x := ix_none hi_x
    refine lv_aload_n hx hb dX7_as_0 rfl (lv_at hl 0 rfl) ?_
    refine lv_iload_n hx hb dX7_as_1 rfl (lv_at hl 1 rfl) ?_
    refine ro_Vq (As := [.int x]) (rest := []) (v := none) ⟨hx, hb, hml, hown, hts⟩ (c_X7_personAt_n l D cy ev ax g q bt rv pf x hi_x hI.n) (kz_cwV 1 hts wm_326 wm_323 wm_324 wm_325 wm_2 rfl rfl (by decide +kernel) ⟨Nat.le_of_ble_eq_true rfl, Nat.le_of_ble_eq_true rfl⟩) hK hE (hP.sub (ws' := [zO (ax 0) 7 [.ref (ax 1), .ref (ax 3), .ref (ax 4), .ref (ax 10), .ref (ax 16), .int (nI (g 0)), .int (nI (g 4)), .int (nI (g 6)), .int (nI (g 5))], zQ cy (ax 3) 4 pf]) [0, 3] rfl) (kz_recv 0 hK hP rfl rfl) rfl hl.1 rfl (Nat.le_of_ble_eq_true rfl) dX7_as_2 ⟨Nat.le_of_ble_eq_true rfl, Nat.le_of_ble_eq_true rfl⟩ ?_
    refine kn_as (st' := [.null]) rfl ?_
    refine lv_astore_nN (lv' := [(3, .null), (0, .ref (ax 0)), (1, .int x), (2, .int y)]) hx hb dX7_as_5 rfl hl (by decide) rfl (fun ls hl => ?_)
    refine lv_aload_nN hx hb dX7_as_6 rfl (lv_at hl 0 rfl) ?_
    refine lv_ifnonnullN hx hb dX7_as_7 ?_
    refine lv_bipush (v := (-101)) hx hb dX7_as_10 (by decide) ?_
    exact ro_ri hx hb hr hlk dX7_as_12 (by unfold F_as; rw [hi_x])
  · skip
    obtain ⟨hj, rfl⟩ := ix_some hi_x
    have hper := hI.per j hj
    have hbu9 := hI.bu j
    have hw6 := hI.w6 j
    rcases hi_y : ix (5) y with _ | k
    · skip
      have hn_y := ix_none hi_y
      refine lv_aload_n hx hb dX7_as_0 rfl (lv_at hl 0 rfl) ?_
      refine lv_iload_n hx hb dX7_as_1 rfl (lv_at hl 1 rfl) ?_
      refine ro_Vq (As := [.int (nI j)]) (rest := []) (v := some (pa j)) ⟨hx, hb, hml, hown, hts⟩ (c_X7_personAt_s l D cy ev ax g q bt rv pf pa j (by omega) hI.n (hZ j (by omega)).1) (kz_cwV 1 hts wm_326 wm_323 wm_324 wm_325 wm_2 rfl rfl (by decide +kernel) ⟨Nat.le_of_ble_eq_true rfl, Nat.le_of_ble_eq_true rfl⟩) hK hE (hP.sub (ws' := [zO (ax 0) 7 [.ref (ax 1), .ref (ax 3), .ref (ax 4), .ref (ax 10), .ref (ax 16), .int (nI (g 0)), .int (nI (g 4)), .int (nI (g 6)), .int (nI (g 5))], zQ cy (ax 3) 4 pf]) [0, 3] rfl) (kz_recv 0 hK hP rfl rfl) rfl hl.1 rfl (Nat.le_of_ble_eq_true rfl) dX7_as_2 ⟨Nat.le_of_ble_eq_true rfl, Nat.le_of_ble_eq_true rfl⟩ ?_
      refine kn_as (st' := [.ref (pa j)]) rfl ?_
      refine lv_astore_n (lv' := [(3, .ref (pa j)), (0, .ref (ax 0)), (1, .int (nI j)), (2, .int y)]) hx hb dX7_as_5 rfl hl (by decide) rfl (fun ls hl => ?_)
      refine lv_aload_n hx hb dX7_as_6 rfl (lv_at hl 0 rfl) ?_
      refine lv_ifnonnull (tgt := 13) hx hb dX7_as_7 (by decide) ?_
      refine lv_iload_n hx hb dX7_as_13 rfl (lv_at hl 3 rfl) ?_
      refine kt_if_lt (tgt := 22) hx hb dX7_as_14 (by decide) rfl (fun c14 => ?_) (fun c14 => ?_)
      · skip
        refine lv_bipush (v := (-102)) hx hb dX7_as_22 (by decide) ?_
        exact ro_ri hx hb hr hlk dX7_as_24 (by unfold F_as; rw [hi_x, hi_y])
      · skip
        refine lv_iload_n hx hb dX7_as_17 rfl (lv_at hl 3 rfl) ?_
        refine lv_iconst (v := nI 4) hx hb dX7_as_18 (by decide) ?_
        refine kt_icmp_le (tgt := 25) hx hb dX7_as_19 (by decide) rfl (nI_toInt (by decide)) (fun c19 => absurd c19 (by omega)) (fun c19 => ?_)
        refine lv_bipush (v := (-102)) hx hb dX7_as_22 (by decide) ?_
        exact ro_ri hx hb hr hlk dX7_as_24 (by unfold F_as; rw [hi_x, hi_y])
    · skip
      obtain ⟨hk, rfl⟩ := ix_some hi_y
      refine lv_aload_n hx hb dX7_as_0 rfl (lv_at hl 0 rfl) ?_
      refine lv_iload_n hx hb dX7_as_1 rfl (lv_at hl 1 rfl) ?_
      refine ro_Vq (As := [.int (nI j)]) (rest := []) (v := some (pa j)) ⟨hx, hb, hml, hown, hts⟩ (c_X7_personAt_s l D cy ev ax g q bt rv pf pa j (by omega) hI.n (hZ j (by omega)).1) (kz_cwV 1 hts wm_326 wm_323 wm_324 wm_325 wm_2 rfl rfl (by decide +kernel) ⟨Nat.le_of_ble_eq_true rfl, Nat.le_of_ble_eq_true rfl⟩) hK hE (hP.sub (ws' := [zO (ax 0) 7 [.ref (ax 1), .ref (ax 3), .ref (ax 4), .ref (ax 10), .ref (ax 16), .int (nI (g 0)), .int (nI (g 4)), .int (nI (g 6)), .int (nI (g 5))], zQ cy (ax 3) 4 pf]) [0, 3] rfl) (kz_recv 0 hK hP rfl rfl) rfl hl.1 rfl (Nat.le_of_ble_eq_true rfl) dX7_as_2 ⟨Nat.le_of_ble_eq_true rfl, Nat.le_of_ble_eq_true rfl⟩ ?_
      refine kn_as (st' := [.ref (pa j)]) rfl ?_
      refine lv_astore_n (lv' := [(3, .ref (pa j)), (0, .ref (ax 0)), (1, .int (nI j)), (2, .int (nI k))]) hx hb dX7_as_5 rfl hl (by decide) rfl (fun ls hl => ?_)
      refine lv_aload_n hx hb dX7_as_6 rfl (lv_at hl 0 rfl) ?_
      refine lv_ifnonnull (tgt := 13) hx hb dX7_as_7 (by decide) ?_
      refine lv_iload_n hx hb dX7_as_13 rfl (lv_at hl 3 rfl) ?_
      refine kt_if_lt (tgt := 22) hx hb dX7_as_14 (by decide) (nI_toInt (by omega)) (fun c14 => absurd c14 (by omega)) (fun c14 => ?_)
      refine lv_iload_n hx hb dX7_as_17 rfl (lv_at hl 3 rfl) ?_
      refine lv_iconst (v := nI 4) hx hb dX7_as_18 (by decide) ?_
      refine kt_icmp_le (tgt := 25) hx hb dX7_as_19 (by decide) (nI_toInt (by omega)) (nI_toInt (by decide)) (fun c19 => ?_) (fun c19 => absurd c19 (by omega))
      refine lv_aload_n hx hb dX7_as_25 rfl (lv_at hl 0 rfl) ?_
      refine lv_iload_n hx hb dX7_as_26 rfl (lv_at hl 3 rfl) ?_
      refine ro_Si (As := [.ref (pa j), .int (nI k)]) (rest := []) (v := bI (isK (q 0 j) k)) ⟨hx, hb, hml, hown, hts⟩ (c_X7_isSuch l D cy ev (pa j) (q 0 j) (q 1 j) (q 2 j) k (hI.per j (by omega)).1 (by omega)) (kz_cwS 2 hts wm_424 wm_422 wm_423 wm_2 rfl rfl (by decide +kernel) ⟨Nat.le_of_ble_eq_true rfl, Nat.le_of_ble_eq_true rfl⟩) hK hE (kz_one hP.right j (hZ j (by omega)).2) rfl hl.1 rfl (Nat.le_of_ble_eq_true rfl) dX7_as_27 ⟨Nat.le_of_ble_eq_true rfl, Nat.le_of_ble_eq_true rfl⟩ ?_
      refine kt_ifB_eq (tgt := 37) hx hb dX7_as_30 (by decide) (fun c30 => ?_) (fun c30 => ?_)
      · skip
        refine lv_iconst (v := (-1)) hx hb dX7_as_37 (by decide) ?_
        exact ro_ri hx hb hr hlk dX7_as_38 (by unfold F_as; rw [hi_x, hi_y]; simp only [c30, if_true, if_false, Bool.false_eq_true])
      · skip
        refine lv_iload_n hx hb dX7_as_33 rfl (lv_at hl 2 rfl) ?_
        refine lv_goto (tgt := 38) hx hb dX7_as_34 (by decide) ?_
        exact ro_ri hx hb hr hlk dX7_as_38 (by unfold F_as; rw [hi_x, hi_y]; simp only [c30, if_true, if_false, Bool.false_eq_true])
set_option maxHeartbeats 4000000 in
set_option maxRecDepth 100000 in
theorem c_X7_belief (l : Launch) (D : va_G) (cy : Nat → ClassId) (ev : kz_V) (ax : Nat → Nat) (g : Nat → Nat) (q : Nat → Nat → Nat) (bt : Nat → Nat → Int32) (rv : Nat → Nat → Nat) (pf : Nat → Option Nat) (pa : Nat → Nat) (pz : va_W) (hI : XI g q) (hZ : XP g q pf pa pz) (x y : Int32) : Met l yX7_belief (.code yX7_belief cX7_belief 3 (some .long) :: WB) { frames := 2, cells := 0, slots := 0, locals := 56 } (ro_Pc D cy ev [.ref (ax 0), .int x, .int y] ([zO (ax 0) 7 [.ref (ax 1), .ref (ax 3), .ref (ax 4), .ref (ax 10), .ref (ax 16), .int (nI (g 0)), .int (nI (g 4)), .int (nI (g 6)), .int (nI (g 5))], zO (ax 1) 1 [.ref (ax 2), .int (nI (g 3))], zI cy (ax 2) 18 (fun i9 => nI ((q 7) i9)), zQ cy (ax 3) 4 pf, zO (ax 4) 4 [.ref (ax 5), .ref (ax 6), .ref (ax 7), .ref (ax 8), .ref (ax 9), .int (nI (g 2)), .int (nI (g 1))], zI cy (ax 5) 4 (fun i9 => nI ((q 3) i9)), zJ cy (ax 6) 4 (fun i9 => lN ((q 4) i9)), zI cy (ax 7) 4 (fun i9 => nI ((q 5) i9)), zI cy (ax 8) 4 (fun i9 => nI ((q 6) i9)), zI cy (ax 9) 4 (bt 0), zO (ax 10) 4 [.ref (ax 11), .ref (ax 12), .ref (ax 13), .ref (ax 14), .ref (ax 15), .int (nI (g 8)), .int (nI (g 7))], zI cy (ax 11) 4 (fun i9 => nI ((q 8) i9)), zJ cy (ax 12) 4 (fun i9 => lN ((q 9) i9)), zI cy (ax 13) 4 (fun i9 => nI ((q 10) i9)), zI cy (ax 14) 4 (fun i9 => nI ((q 11) i9)), zI cy (ax 15) 4 (bt 1), zG cy (ax 16) 4 (fun i => if i < 4 then some (ax (17 + i)) else none), zJ cy (ax 17) 4 (fun i9 => lN ((rv 0) i9)), zJ cy (ax 18) 4 (fun i9 => lN ((rv 1) i9)), zJ cy (ax 19) 4 (fun i9 => lN ((rv 2) i9)), zJ cy (ax 20) 4 (fun i9 => lN ((rv 3) i9))] ++ pz)) (vp_Sl (fun r => r = F_belief g q x y)) 0 0 (fun _ => False) := by
  refine Met.ofW (cc := cX7_belief) (maxL := 3) (ret := (some .long)) (by decide) rfl ?_
  intro p e s m args below meth c s₁ B hml hv
  obtain ⟨rfl, hP, hK, hE⟩ := hv
  have hx := B.exec
  have hb := B.bytes
  have hr := B.returns
  have hlk := B.notSynchronized
  have hts : ∀ w ∈ WB, w.before _ s = true := fun w h => atoms_spec B.pre w (List.mem_cons_of_mem _ h)
  have hown : s.vm.findClass RX7 = some m.cls := findClass_of_methodNamed B.named
  have hl := lv_entry ([.ref (ax 0), .int x, .int y]) (n := 3) (Nat.le_of_ble_eq_true rfl)
  rw [lg_entry_eq]
  generalize (lg_sl ([.ref (ax 0), .int x, .int y]) ++ List.replicate (3 - (lg_sl ([.ref (ax 0), .int x, .int y])).length) Slot.unset).toArray = ls at hl ⊢
  have hl : lv_has ls 3 [(0, .ref (ax 0)), (1, .int x), (2, .int y)] := hl
  have hn4 := hI.n
  have hn2 := hI.n2
  have hdry := hI.dry
  rcases hi_x : ix (g 0) x with _ | j
  · skip
    have hn_x := ix_none hi_x
    refine lv_aload_n hx hb dX7_belief_0 rfl (lv_at hl 0 rfl) ?_
    refine lv_iload_n hx hb dX7_belief_1 rfl (lv_at hl 1 rfl) ?_
    refine ro_Vq (As := [.int x]) (rest := []) (v := none) ⟨hx, hb, hml, hown, hts⟩ (c_X7_personAt_n l D cy ev ax g q bt rv pf x hi_x hI.n) (kz_cwV 1 hts wm_326 wm_323 wm_324 wm_325 wm_2 rfl rfl (by decide +kernel) ⟨Nat.le_of_ble_eq_true rfl, Nat.le_of_ble_eq_true rfl⟩) hK hE (hP.sub (ws' := [zO (ax 0) 7 [.ref (ax 1), .ref (ax 3), .ref (ax 4), .ref (ax 10), .ref (ax 16), .int (nI (g 0)), .int (nI (g 4)), .int (nI (g 6)), .int (nI (g 5))], zQ cy (ax 3) 4 pf]) [0, 3] rfl) (kz_recv 0 hK hP rfl rfl) rfl hl.1 rfl (Nat.le_of_ble_eq_true rfl) dX7_belief_2 ⟨Nat.le_of_ble_eq_true rfl, Nat.le_of_ble_eq_true rfl⟩ ?_
    refine kn_as (st' := [.null]) rfl ?_
    refine lv_ifnonnullN hx hb dX7_belief_5 ?_
    refine lv_ldc2 (v := (-101)) hx hb hown (hts _ wm_500) dX7_belief_8 ?_
    exact ro_rl hx hb hr hlk dX7_belief_11 (by unfold F_belief; rw [hi_x])
  · skip
    obtain ⟨hj, rfl⟩ := ix_some hi_x
    have hper := hI.per j hj
    have hbu9 := hI.bu j
    have hw6 := hI.w6 j
    rcases hi_y : ix (2) y with _ | k
    · skip
      have hn_y := ix_none hi_y
      refine lv_aload_n hx hb dX7_belief_0 rfl (lv_at hl 0 rfl) ?_
      refine lv_iload_n hx hb dX7_belief_1 rfl (lv_at hl 1 rfl) ?_
      refine ro_Vq (As := [.int (nI j)]) (rest := []) (v := some (pa j)) ⟨hx, hb, hml, hown, hts⟩ (c_X7_personAt_s l D cy ev ax g q bt rv pf pa j (by omega) hI.n (hZ j (by omega)).1) (kz_cwV 1 hts wm_326 wm_323 wm_324 wm_325 wm_2 rfl rfl (by decide +kernel) ⟨Nat.le_of_ble_eq_true rfl, Nat.le_of_ble_eq_true rfl⟩) hK hE (hP.sub (ws' := [zO (ax 0) 7 [.ref (ax 1), .ref (ax 3), .ref (ax 4), .ref (ax 10), .ref (ax 16), .int (nI (g 0)), .int (nI (g 4)), .int (nI (g 6)), .int (nI (g 5))], zQ cy (ax 3) 4 pf]) [0, 3] rfl) (kz_recv 0 hK hP rfl rfl) rfl hl.1 rfl (Nat.le_of_ble_eq_true rfl) dX7_belief_2 ⟨Nat.le_of_ble_eq_true rfl, Nat.le_of_ble_eq_true rfl⟩ ?_
      refine kn_as (st' := [.ref (pa j)]) rfl ?_
      refine lv_ifnonnull (tgt := 12) hx hb dX7_belief_5 (by decide) ?_
      refine lv_iload_n hx hb dX7_belief_12 rfl (lv_at hl 2 rfl) ?_
      refine kt_if_lt (tgt := 21) hx hb dX7_belief_13 (by decide) rfl (fun c13 => ?_) (fun c13 => ?_)
      · skip
        refine lv_ldc2 (v := (-102)) hx hb hown (hts _ wm_501) dX7_belief_21 ?_
        exact ro_rl hx hb hr hlk dX7_belief_24 (by unfold F_belief; rw [hi_x, hi_y])
      · skip
        refine lv_iload_n hx hb dX7_belief_16 rfl (lv_at hl 2 rfl) ?_
        refine lv_iconst (v := nI 1) hx hb dX7_belief_17 (by decide) ?_
        refine kt_icmp_le (tgt := 25) hx hb dX7_belief_18 (by decide) rfl (nI_toInt (by decide)) (fun c18 => absurd c18 (by omega)) (fun c18 => ?_)
        refine lv_ldc2 (v := (-102)) hx hb hown (hts _ wm_501) dX7_belief_21 ?_
        exact ro_rl hx hb hr hlk dX7_belief_24 (by unfold F_belief; rw [hi_x, hi_y])
    · skip
      obtain ⟨hk, rfl⟩ := ix_some hi_y
      refine lv_aload_n hx hb dX7_belief_0 rfl (lv_at hl 0 rfl) ?_
      refine lv_iload_n hx hb dX7_belief_1 rfl (lv_at hl 1 rfl) ?_
      refine ro_Vq (As := [.int (nI j)]) (rest := []) (v := some (pa j)) ⟨hx, hb, hml, hown, hts⟩ (c_X7_personAt_s l D cy ev ax g q bt rv pf pa j (by omega) hI.n (hZ j (by omega)).1) (kz_cwV 1 hts wm_326 wm_323 wm_324 wm_325 wm_2 rfl rfl (by decide +kernel) ⟨Nat.le_of_ble_eq_true rfl, Nat.le_of_ble_eq_true rfl⟩) hK hE (hP.sub (ws' := [zO (ax 0) 7 [.ref (ax 1), .ref (ax 3), .ref (ax 4), .ref (ax 10), .ref (ax 16), .int (nI (g 0)), .int (nI (g 4)), .int (nI (g 6)), .int (nI (g 5))], zQ cy (ax 3) 4 pf]) [0, 3] rfl) (kz_recv 0 hK hP rfl rfl) rfl hl.1 rfl (Nat.le_of_ble_eq_true rfl) dX7_belief_2 ⟨Nat.le_of_ble_eq_true rfl, Nat.le_of_ble_eq_true rfl⟩ ?_
      refine kn_as (st' := [.ref (pa j)]) rfl ?_
      refine lv_ifnonnull (tgt := 12) hx hb dX7_belief_5 (by decide) ?_
      refine lv_iload_n hx hb dX7_belief_12 rfl (lv_at hl 2 rfl) ?_
      refine kt_if_lt (tgt := 21) hx hb dX7_belief_13 (by decide) (nI_toInt (by omega)) (fun c13 => absurd c13 (by omega)) (fun c13 => ?_)
      refine lv_iload_n hx hb dX7_belief_16 rfl (lv_at hl 2 rfl) ?_
      refine lv_iconst (v := nI 1) hx hb dX7_belief_17 (by decide) ?_
      refine kt_icmp_le (tgt := 25) hx hb dX7_belief_18 (by decide) (nI_toInt (by omega)) (nI_toInt (by decide)) (fun c18 => ?_) (fun c18 => absurd c18 (by omega))
      refine lv_aload_n hx hb dX7_belief_25 rfl (lv_at hl 0 rfl) ?_
      refine va_get (ci := 7) (C := RX7) (T := TX7) (N := 9) hx hb hts inX7 hown hK hP 0 rfl rfl 2 (by decide) (hts _ wm_21) (fun _ h9 => h9) rfl dX7_belief_26 ?_
      refine va_get (ci := 4) (C := RX4) (T := TX4) (N := 7) hx hb hts inX4 hown hK hP 4 rfl rfl 1 (by decide) (hts _ wm_240) (fun _ h9 => h9) rfl dX7_belief_29 ?_
      refine lv_iload_n hx hb dX7_belief_32 rfl (lv_at hl 1 rfl) ?_
      refine kn_lald (v := lN ((q 4) j)) hx hb hK hP 6 rfl (by omega) (by decide) rfl dX7_belief_33 ?_
      refine lv_aload_n hx hb dX7_belief_34 rfl (lv_at hl 0 rfl) ?_
      refine ro_Vl (As := []) (rest := [.long (lN ((q 4) j))]) (v := lN (sm (q 4) 4)) ⟨hx, hb, hml, hown, hts⟩ (c_X7_weightOfAll l D cy ev ax g q bt rv pf) (kz_cwV 0 hts wm_505 wm_502 wm_503 wm_504 wm_2 rfl rfl (by decide +kernel) ⟨Nat.le_of_ble_eq_true rfl, Nat.le_of_ble_eq_true rfl⟩) hK hE (hP.sub (ws' := [zO (ax 0) 7 [.ref (ax 1), .ref (ax 3), .ref (ax 4), .ref (ax 10), .ref (ax 16), .int (nI (g 0)), .int (nI (g 4)), .int (nI (g 6)), .int (nI (g 5))], zO (ax 4) 4 [.ref (ax 5), .ref (ax 6), .ref (ax 7), .ref (ax 8), .ref (ax 9), .int (nI (g 2)), .int (nI (g 1))], zJ cy (ax 6) 4 (fun i9 => lN ((q 4) i9))]) [0, 4, 6] rfl) (kz_recv 0 hK hP rfl rfl) rfl hl.1 rfl (Nat.le_of_ble_eq_true rfl) dX7_belief_35 ⟨Nat.le_of_ble_eq_true rfl, Nat.le_of_ble_eq_true rfl⟩ ?_
      refine lv_iload_n hx hb dX7_belief_38 rfl (lv_at hl 2 rfl) ?_
      have hs4 := hI.sm4
      have hsl := hI.sml
      have hsp := hI.pos (by omega)
      refine ro_Sl (As := [.long (lN ((q 4) j)), .long (lN (sm (q 4) 4)), .int (nI k)]) (rest := []) (v := lN (lowT ((q 4) j) (sm (q 4) 4) k)) ⟨hx, hb, hml, hown, hts⟩ (c_X7_inLowestTerms l D cy ev ((q 4) j) (sm (q 4) 4) k (by omega) (by omega) (by omega) (by omega)) (kz_cwS 3 hts wm_508 wm_506 wm_507 wm_2 rfl rfl (by decide +kernel) ⟨Nat.le_of_ble_eq_true rfl, Nat.le_of_ble_eq_true rfl⟩) hK hE (fun k q h => by simp at h) rfl hl.1 rfl (Nat.le_of_ble_eq_true rfl) dX7_belief_39 ⟨Nat.le_of_ble_eq_true rfl, Nat.le_of_ble_eq_true rfl⟩ ?_
      exact ro_rl hx hb hr hlk dX7_belief_42 (by unfold F_belief; rw [hi_x, hi_y, hI.sm4])
set_option maxHeartbeats 4000000 in
set_option maxRecDepth 100000 in
theorem c_X7_judged (l : Launch) (D : va_G) (cy : Nat → ClassId) (ev : kz_V) (ax : Nat → Nat) (g : Nat → Nat) (q : Nat → Nat → Nat) (bt : Nat → Nat → Int32) (rv : Nat → Nat → Nat) (pf : Nat → Option Nat) (hI : XI g q) : Met l yX7_judged (.code yX7_judged cX7_judged 1 (some .int) :: WB) { frames := 1, cells := 0, slots := 0, locals := 22 } (ro_Pc D cy ev [.ref (ax 0)] [zO (ax 0) 7 [.ref (ax 1), .ref (ax 3), .ref (ax 4), .ref (ax 10), .ref (ax 16), .int (nI (g 0)), .int (nI (g 4)), .int (nI (g 6)), .int (nI (g 5))], zO (ax 1) 1 [.ref (ax 2), .int (nI (g 3))], zI cy (ax 2) 18 (fun i9 => nI ((q 7) i9)), zQ cy (ax 3) 4 pf, zO (ax 4) 4 [.ref (ax 5), .ref (ax 6), .ref (ax 7), .ref (ax 8), .ref (ax 9), .int (nI (g 2)), .int (nI (g 1))], zI cy (ax 5) 4 (fun i9 => nI ((q 3) i9)), zJ cy (ax 6) 4 (fun i9 => lN ((q 4) i9)), zI cy (ax 7) 4 (fun i9 => nI ((q 5) i9)), zI cy (ax 8) 4 (fun i9 => nI ((q 6) i9)), zI cy (ax 9) 4 (bt 0), zO (ax 10) 4 [.ref (ax 11), .ref (ax 12), .ref (ax 13), .ref (ax 14), .ref (ax 15), .int (nI (g 8)), .int (nI (g 7))], zI cy (ax 11) 4 (fun i9 => nI ((q 8) i9)), zJ cy (ax 12) 4 (fun i9 => lN ((q 9) i9)), zI cy (ax 13) 4 (fun i9 => nI ((q 10) i9)), zI cy (ax 14) 4 (fun i9 => nI ((q 11) i9)), zI cy (ax 15) 4 (bt 1), zG cy (ax 16) 4 (fun i => if i < 4 then some (ax (17 + i)) else none), zJ cy (ax 17) 4 (fun i9 => lN ((rv 0) i9)), zJ cy (ax 18) 4 (fun i9 => lN ((rv 1) i9)), zJ cy (ax 19) 4 (fun i9 => lN ((rv 2) i9)), zJ cy (ax 20) 4 (fun i9 => lN ((rv 3) i9))]) (vp_Si (fun r => r = F_judged g q)) 0 0 (fun _ => False) := by
  refine Met.ofW (cc := cX7_judged) (maxL := 1) (ret := (some .int)) (by decide) rfl ?_
  intro p e s m args below meth c s₁ B hml hv
  obtain ⟨rfl, hP, hK, hE⟩ := hv
  have hx := B.exec
  have hb := B.bytes
  have hr := B.returns
  have hlk := B.notSynchronized
  have hts : ∀ w ∈ WB, w.before _ s = true := fun w h => atoms_spec B.pre w (List.mem_cons_of_mem _ h)
  have hown : s.vm.findClass RX7 = some m.cls := findClass_of_methodNamed B.named
  have hl := lv_entry ([.ref (ax 0)]) (n := 1) (Nat.le_of_ble_eq_true rfl)
  rw [lg_entry_eq]
  generalize (lg_sl ([.ref (ax 0)]) ++ List.replicate (1 - (lg_sl ([.ref (ax 0)])).length) Slot.unset).toArray = ls at hl ⊢
  have hl : lv_has ls 1 [(0, .ref (ax 0))] := hl
  have hn4 := hI.n
  have hn2 := hI.n2
  have hdry := hI.dry
  refine lv_aload_n hx hb dX7_judged_0 rfl (lv_at hl 0 rfl) ?_
  refine va_get (ci := 7) (C := RX7) (T := TX7) (N := 9) hx hb hts inX7 hown hK hP 0 rfl rfl 5 (by decide) (hts _ wm_239) (fun _ h9 => h9) rfl dX7_judged_1 ?_
  refine kt_if_ne (tgt := 12) hx hb dX7_judged_4 (by decide) (nI_toInt (by omega)) (fun c4 => ?_) (fun c4 => ?_)
  · skip
    refine lv_aload_n hx hb dX7_judged_12 rfl (lv_at hl 0 rfl) ?_
    refine va_get (ci := 7) (C := RX7) (T := TX7) (N := 9) hx hb hts inX7 hown hK hP 0 rfl rfl 2 (by decide) (hts _ wm_21) (fun _ h9 => h9) rfl dX7_judged_13 ?_
    refine va_get (ci := 4) (C := RX4) (T := TX4) (N := 7) hx hb hts inX4 hown hK hP 4 rfl rfl 1 (by decide) (hts _ wm_240) (fun _ h9 => h9) rfl dX7_judged_16 ?_
    refine ro_Si (As := [.ref (ax 6)]) (rest := []) (v := nI (amx (q 4) 4)) ⟨hx, hb, hml, hown, hts⟩ (c_X7_heaviest l D cy ev (ax 6) (q 4) hI.hwb) (kz_cwS 1 hts wm_468 wm_466 wm_467 wm_2 rfl rfl (by decide +kernel) ⟨Nat.le_of_ble_eq_true rfl, Nat.le_of_ble_eq_true rfl⟩) hK hE (hP.sub (ws' := [zJ cy (ax 6) 4 (fun i9 => lN ((q 4) i9))]) [6] rfl) rfl hl.1 rfl (Nat.le_of_ble_eq_true rfl) dX7_judged_19 ⟨Nat.le_of_ble_eq_true rfl, Nat.le_of_ble_eq_true rfl⟩ ?_
    exact ro_ri hx hb hr hlk dX7_judged_22 (by unfold F_judged; rw [if_neg (by omega), hI.amx4])
  · skip
    refine lv_bipush (v := (-103)) hx hb dX7_judged_7 (by decide) ?_
    refine lv_goto (tgt := 22) hx hb dX7_judged_9 (by decide) ?_
    exact ro_ri hx hb hr hlk dX7_judged_22 (by unfold F_judged; rw [if_pos (by omega)])
set_option maxHeartbeats 4000000 in
set_option maxRecDepth 100000 in
theorem c_X7_buttered (l : Launch) (D : va_G) (cy : Nat → ClassId) (ev : kz_V) (ax : Nat → Nat) (g : Nat → Nat) (q : Nat → Nat → Nat) (bt : Nat → Nat → Int32) (rv : Nat → Nat → Nat) (pf : Nat → Option Nat) (pa : Nat → Nat) (pz : va_W) (hI : XI g q) (hZ : XP g q pf pa pz) (x : Int32) : Met l yX7_buttered (.code yX7_buttered cX7_buttered 2 (some .int) :: WB) { frames := 1, cells := 0, slots := 0, locals := 21 } (ro_Pc D cy ev [.ref (ax 0), .int x] ([zO (ax 0) 7 [.ref (ax 1), .ref (ax 3), .ref (ax 4), .ref (ax 10), .ref (ax 16), .int (nI (g 0)), .int (nI (g 4)), .int (nI (g 6)), .int (nI (g 5))], zO (ax 1) 1 [.ref (ax 2), .int (nI (g 3))], zI cy (ax 2) 18 (fun i9 => nI ((q 7) i9)), zQ cy (ax 3) 4 pf, zO (ax 4) 4 [.ref (ax 5), .ref (ax 6), .ref (ax 7), .ref (ax 8), .ref (ax 9), .int (nI (g 2)), .int (nI (g 1))], zI cy (ax 5) 4 (fun i9 => nI ((q 3) i9)), zJ cy (ax 6) 4 (fun i9 => lN ((q 4) i9)), zI cy (ax 7) 4 (fun i9 => nI ((q 5) i9)), zI cy (ax 8) 4 (fun i9 => nI ((q 6) i9)), zI cy (ax 9) 4 (bt 0), zO (ax 10) 4 [.ref (ax 11), .ref (ax 12), .ref (ax 13), .ref (ax 14), .ref (ax 15), .int (nI (g 8)), .int (nI (g 7))], zI cy (ax 11) 4 (fun i9 => nI ((q 8) i9)), zJ cy (ax 12) 4 (fun i9 => lN ((q 9) i9)), zI cy (ax 13) 4 (fun i9 => nI ((q 10) i9)), zI cy (ax 14) 4 (fun i9 => nI ((q 11) i9)), zI cy (ax 15) 4 (bt 1), zG cy (ax 16) 4 (fun i => if i < 4 then some (ax (17 + i)) else none), zJ cy (ax 17) 4 (fun i9 => lN ((rv 0) i9)), zJ cy (ax 18) 4 (fun i9 => lN ((rv 1) i9)), zJ cy (ax 19) 4 (fun i9 => lN ((rv 2) i9)), zJ cy (ax 20) 4 (fun i9 => lN ((rv 3) i9))] ++ pz)) (vp_Si (fun r => r = F_buttered g bt x)) 0 0 (fun _ => False) := by
  refine Met.ofW (cc := cX7_buttered) (maxL := 2) (ret := (some .int)) (by decide) rfl ?_
  intro p e s m args below meth c s₁ B hml hv
  obtain ⟨rfl, hP, hK, hE⟩ := hv
  have hx := B.exec
  have hb := B.bytes
  have hr := B.returns
  have hlk := B.notSynchronized
  have hts : ∀ w ∈ WB, w.before _ s = true := fun w h => atoms_spec B.pre w (List.mem_cons_of_mem _ h)
  have hown : s.vm.findClass RX7 = some m.cls := findClass_of_methodNamed B.named
  have hl := lv_entry ([.ref (ax 0), .int x]) (n := 2) (Nat.le_of_ble_eq_true rfl)
  rw [lg_entry_eq]
  generalize (lg_sl ([.ref (ax 0), .int x]) ++ List.replicate (2 - (lg_sl ([.ref (ax 0), .int x])).length) Slot.unset).toArray = ls at hl ⊢
  have hl : lv_has ls 2 [(0, .ref (ax 0)), (1, .int x)] := hl
  have hn4 := hI.n
  have hn2 := hI.n2
  have hdry := hI.dry
  rcases hi_x : ix (g 0) x with _ | j
  · skip
    have hn_x := ix_none hi_x
    refine lv_aload_n hx hb dX7_buttered_0 rfl (lv_at hl 0 rfl) ?_
    refine lv_iload_n hx hb dX7_buttered_1 rfl (lv_at hl 1 rfl) ?_
    refine ro_Vq (As := [.int x]) (rest := []) (v := none) ⟨hx, hb, hml, hown, hts⟩ (c_X7_personAt_n l D cy ev ax g q bt rv pf x hi_x hI.n) (kz_cwV 1 hts wm_326 wm_323 wm_324 wm_325 wm_2 rfl rfl (by decide +kernel) ⟨Nat.le_of_ble_eq_true rfl, Nat.le_of_ble_eq_true rfl⟩) hK hE (hP.sub (ws' := [zO (ax 0) 7 [.ref (ax 1), .ref (ax 3), .ref (ax 4), .ref (ax 10), .ref (ax 16), .int (nI (g 0)), .int (nI (g 4)), .int (nI (g 6)), .int (nI (g 5))], zQ cy (ax 3) 4 pf]) [0, 3] rfl) (kz_recv 0 hK hP rfl rfl) rfl hl.1 rfl (Nat.le_of_ble_eq_true rfl) dX7_buttered_2 ⟨Nat.le_of_ble_eq_true rfl, Nat.le_of_ble_eq_true rfl⟩ ?_
    refine kn_as (st' := [.null]) rfl ?_
    refine lv_ifnonnullN hx hb dX7_buttered_5 ?_
    refine lv_bipush (v := (-101)) hx hb dX7_buttered_8 (by decide) ?_
    refine lv_goto (tgt := 22) hx hb dX7_buttered_10 (by decide) ?_
    exact ro_ri hx hb hr hlk dX7_buttered_22 (by unfold F_buttered; rw [hi_x])
  · skip
    obtain ⟨hj, rfl⟩ := ix_some hi_x
    have hper := hI.per j hj
    have hbu9 := hI.bu j
    have hw6 := hI.w6 j
    refine lv_aload_n hx hb dX7_buttered_0 rfl (lv_at hl 0 rfl) ?_
    refine lv_iload_n hx hb dX7_buttered_1 rfl (lv_at hl 1 rfl) ?_
    refine ro_Vq (As := [.int (nI j)]) (rest := []) (v := some (pa j)) ⟨hx, hb, hml, hown, hts⟩ (c_X7_personAt_s l D cy ev ax g q bt rv pf pa j (by omega) hI.n (hZ j (by omega)).1) (kz_cwV 1 hts wm_326 wm_323 wm_324 wm_325 wm_2 rfl rfl (by decide +kernel) ⟨Nat.le_of_ble_eq_true rfl, Nat.le_of_ble_eq_true rfl⟩) hK hE (hP.sub (ws' := [zO (ax 0) 7 [.ref (ax 1), .ref (ax 3), .ref (ax 4), .ref (ax 10), .ref (ax 16), .int (nI (g 0)), .int (nI (g 4)), .int (nI (g 6)), .int (nI (g 5))], zQ cy (ax 3) 4 pf]) [0, 3] rfl) (kz_recv 0 hK hP rfl rfl) rfl hl.1 rfl (Nat.le_of_ble_eq_true rfl) dX7_buttered_2 ⟨Nat.le_of_ble_eq_true rfl, Nat.le_of_ble_eq_true rfl⟩ ?_
    refine kn_as (st' := [.ref (pa j)]) rfl ?_
    refine lv_ifnonnull (tgt := 13) hx hb dX7_buttered_5 (by decide) ?_
    refine lv_aload_n hx hb dX7_buttered_13 rfl (lv_at hl 0 rfl) ?_
    refine va_get (ci := 7) (C := RX7) (T := TX7) (N := 9) hx hb hts inX7 hown hK hP 0 rfl rfl 2 (by decide) (hts _ wm_21) (fun _ h9 => h9) rfl dX7_buttered_14 ?_
    refine va_get (ci := 4) (C := RX4) (T := TX4) (N := 7) hx hb hts inX4 hown hK hP 4 rfl rfl 4 (by decide) (hts _ wm_603) (fun _ h9 => h9) rfl dX7_buttered_17 ?_
    refine lv_iload_n hx hb dX7_buttered_20 rfl (lv_at hl 1 rfl) ?_
    refine kn_iald (v := bt 0 j) hx hb hK hP 9 rfl (by omega) (by decide) rfl dX7_buttered_21 ?_
    exact ro_ri hx hb hr hlk dX7_buttered_22 (by unfold F_buttered; rw [hi_x])
set_option maxHeartbeats 4000000 in
set_option maxRecDepth 100000 in
theorem c_X7_count (l : Launch) (D : va_G) (cy : Nat → ClassId) (ev : kz_V) (ax : Nat → Nat) (g : Nat → Nat) (q : Nat → Nat → Nat) (bt : Nat → Nat → Int32) (rv : Nat → Nat → Nat) (pf : Nat → Option Nat) (hI : XI g q) (y : Int32) : Met l yX7_count (.code yX7_count cX7_count 2 (some .int) :: WB) { frames := 1, cells := 0, slots := 0, locals := 22 } (ro_Pc D cy ev [.ref (ax 0), .int y] [zO (ax 0) 7 [.ref (ax 1), .ref (ax 3), .ref (ax 4), .ref (ax 10), .ref (ax 16), .int (nI (g 0)), .int (nI (g 4)), .int (nI (g 6)), .int (nI (g 5))], zO (ax 1) 1 [.ref (ax 2), .int (nI (g 3))], zI cy (ax 2) 18 (fun i9 => nI ((q 7) i9)), zQ cy (ax 3) 4 pf, zO (ax 4) 4 [.ref (ax 5), .ref (ax 6), .ref (ax 7), .ref (ax 8), .ref (ax 9), .int (nI (g 2)), .int (nI (g 1))], zI cy (ax 5) 4 (fun i9 => nI ((q 3) i9)), zJ cy (ax 6) 4 (fun i9 => lN ((q 4) i9)), zI cy (ax 7) 4 (fun i9 => nI ((q 5) i9)), zI cy (ax 8) 4 (fun i9 => nI ((q 6) i9)), zI cy (ax 9) 4 (bt 0), zO (ax 10) 4 [.ref (ax 11), .ref (ax 12), .ref (ax 13), .ref (ax 14), .ref (ax 15), .int (nI (g 8)), .int (nI (g 7))], zI cy (ax 11) 4 (fun i9 => nI ((q 8) i9)), zJ cy (ax 12) 4 (fun i9 => lN ((q 9) i9)), zI cy (ax 13) 4 (fun i9 => nI ((q 10) i9)), zI cy (ax 14) 4 (fun i9 => nI ((q 11) i9)), zI cy (ax 15) 4 (bt 1), zG cy (ax 16) 4 (fun i => if i < 4 then some (ax (17 + i)) else none), zJ cy (ax 17) 4 (fun i9 => lN ((rv 0) i9)), zJ cy (ax 18) 4 (fun i9 => lN ((rv 1) i9)), zJ cy (ax 19) 4 (fun i9 => lN ((rv 2) i9)), zJ cy (ax 20) 4 (fun i9 => lN ((rv 3) i9))]) (vp_Si (fun r => r = F_count g q y)) 0 0 (fun _ => False) := by
  refine Met.ofW (cc := cX7_count) (maxL := 2) (ret := (some .int)) (by decide) rfl ?_
  intro p e s m args below meth c s₁ B hml hv
  obtain ⟨rfl, hP, hK, hE⟩ := hv
  have hx := B.exec
  have hb := B.bytes
  have hr := B.returns
  have hlk := B.notSynchronized
  have hts : ∀ w ∈ WB, w.before _ s = true := fun w h => atoms_spec B.pre w (List.mem_cons_of_mem _ h)
  have hown : s.vm.findClass RX7 = some m.cls := findClass_of_methodNamed B.named
  have hl := lv_entry ([.ref (ax 0), .int y]) (n := 2) (Nat.le_of_ble_eq_true rfl)
  rw [lg_entry_eq]
  generalize (lg_sl ([.ref (ax 0), .int y]) ++ List.replicate (2 - (lg_sl ([.ref (ax 0), .int y])).length) Slot.unset).toArray = ls at hl ⊢
  have hl : lv_has ls 2 [(0, .ref (ax 0)), (1, .int y)] := hl
  refine lv_iload_n hx hb dX7_count_0 rfl (lv_at hl 1 rfl) ?_
  rcases hs1 : ix 9 y with _ | k1
  · skip
    have hsn := ix_none hs1
    refine lv_tableOut (tgt := 124) hx hb dX7_count_1 (by omega) (by decide) ?_
    refine lv_bipush (v := (-102)) hx hb dX7_count_124 (by decide) ?_
    exact ro_ri hx hb hr hlk dX7_count_126 (by unfold F_count; rw [hs1])
  · skip
    obtain ⟨hk1, rfl⟩ := ix_some hs1
    rcases (show k1 = 0 ∨ k1 = 1 ∨ k1 = 2 ∨ k1 = 3 ∨ k1 = 4 ∨ k1 = 5 ∨ k1 = 6 ∨ k1 = 7 ∨ k1 = 8 by omega) with rfl | rfl | rfl | rfl | rfl | rfl | rfl | rfl | rfl
    · skip
      refine lv_tableIn (tgt := 52) (off := 51) hx hb dX7_count_1 (by decide) (by decide) rfl (by decide) ?_
      refine lv_aload_n hx hb dX7_count_52 rfl (lv_at hl 0 rfl) ?_
      refine va_get (ci := 7) (C := RX7) (T := TX7) (N := 9) hx hb hts inX7 hown hK hP 0 rfl rfl 5 (by decide) (hts _ wm_239) (fun _ h9 => h9) rfl dX7_count_53 ?_
      exact ro_ri hx hb hr hlk dX7_count_56 (by unfold F_count; rw [hs1]; rfl)
    · skip
      refine lv_tableIn (tgt := 57) (off := 56) hx hb dX7_count_1 (by decide) (by decide) rfl (by decide) ?_
      refine lv_aload_n hx hb dX7_count_57 rfl (lv_at hl 0 rfl) ?_
      refine va_get (ci := 7) (C := RX7) (T := TX7) (N := 9) hx hb hts inX7 hown hK hP 0 rfl rfl 2 (by decide) (hts _ wm_21) (fun _ h9 => h9) rfl dX7_count_58 ?_
      refine va_get (ci := 4) (C := RX4) (T := TX4) (N := 7) hx hb hts inX4 hown hK hP 4 rfl rfl 6 (by decide) (hts _ wm_320) (fun _ h9 => h9) rfl dX7_count_61 ?_
      exact ro_ri hx hb hr hlk dX7_count_64 (by unfold F_count; rw [hs1]; rfl)
    · skip
      refine lv_tableIn (tgt := 65) (off := 64) hx hb dX7_count_1 (by decide) (by decide) rfl (by decide) ?_
      refine lv_aload_n hx hb dX7_count_65 rfl (lv_at hl 0 rfl) ?_
      refine va_get (ci := 7) (C := RX7) (T := TX7) (N := 9) hx hb hts inX7 hown hK hP 0 rfl rfl 2 (by decide) (hts _ wm_21) (fun _ h9 => h9) rfl dX7_count_66 ?_
      refine va_get (ci := 4) (C := RX4) (T := TX4) (N := 7) hx hb hts inX4 hown hK hP 4 rfl rfl 2 (by decide) (hts _ wm_321) (fun _ h9 => h9) rfl dX7_count_69 ?_
      refine ro_Si (As := [.ref (ax 7)]) (rest := []) (v := nI (sm (q 5) 4)) ⟨hx, hb, hml, hown, hts⟩ (c_X7_sumOf l D cy ev (ax 7) (q 5)) (kz_cwS 1 hts wm_465 wm_463 wm_464 wm_2 rfl rfl (by decide +kernel) ⟨Nat.le_of_ble_eq_true rfl, Nat.le_of_ble_eq_true rfl⟩) hK hE (hP.sub (ws' := [zI cy (ax 7) 4 (fun i9 => nI ((q 5) i9))]) [7] rfl) rfl hl.1 rfl (Nat.le_of_ble_eq_true rfl) dX7_count_72 ⟨Nat.le_of_ble_eq_true rfl, Nat.le_of_ble_eq_true rfl⟩ ?_
      exact ro_ri hx hb hr hlk dX7_count_75 (by unfold F_count; rw [hs1]; show _ = nI (g 9); rw [hI.ats])
    · skip
      refine lv_tableIn (tgt := 76) (off := 75) hx hb dX7_count_1 (by decide) (by decide) rfl (by decide) ?_
      refine lv_aload_n hx hb dX7_count_76 rfl (lv_at hl 0 rfl) ?_
      refine va_get (ci := 7) (C := RX7) (T := TX7) (N := 9) hx hb hts inX7 hown hK hP 0 rfl rfl 2 (by decide) (hts _ wm_21) (fun _ h9 => h9) rfl dX7_count_77 ?_
      refine va_get (ci := 4) (C := RX4) (T := TX4) (N := 7) hx hb hts inX4 hown hK hP 4 rfl rfl 3 (by decide) (hts _ wm_322) (fun _ h9 => h9) rfl dX7_count_80 ?_
      refine ro_Si (As := [.ref (ax 8)]) (rest := []) (v := nI (sm (q 6) 4)) ⟨hx, hb, hml, hown, hts⟩ (c_X7_sumOf l D cy ev (ax 8) (q 6)) (kz_cwS 1 hts wm_465 wm_463 wm_464 wm_2 rfl rfl (by decide +kernel) ⟨Nat.le_of_ble_eq_true rfl, Nat.le_of_ble_eq_true rfl⟩) hK hE (hP.sub (ws' := [zI cy (ax 8) 4 (fun i9 => nI ((q 6) i9))]) [8] rfl) rfl hl.1 rfl (Nat.le_of_ble_eq_true rfl) dX7_count_83 ⟨Nat.le_of_ble_eq_true rfl, Nat.le_of_ble_eq_true rfl⟩ ?_
      exact ro_ri hx hb hr hlk dX7_count_86 (by unfold F_count; rw [hs1]; show _ = nI (sm (q 6) (g 0)); rw [sm_4 hI.n (fun i h1 h2 => (hI.z i h1 h2).2.2.2)])
    · skip
      refine lv_tableIn (tgt := 87) (off := 86) hx hb dX7_count_1 (by decide) (by decide) rfl (by decide) ?_
      refine lv_aload_n hx hb dX7_count_87 rfl (lv_at hl 0 rfl) ?_
      refine va_get (ci := 7) (C := RX7) (T := TX7) (N := 9) hx hb hts inX7 hown hK hP 0 rfl rfl 2 (by decide) (hts _ wm_21) (fun _ h9 => h9) rfl dX7_count_88 ?_
      refine va_get (ci := 4) (C := RX4) (T := TX4) (N := 7) hx hb hts inX4 hown hK hP 4 rfl rfl 0 (by decide) (hts _ wm_319) (fun _ h9 => h9) rfl dX7_count_91 ?_
      refine ro_Si (As := [.ref (ax 5)]) (rest := []) (v := nI (sm (q 3) 4)) ⟨hx, hb, hml, hown, hts⟩ (c_X7_sumOf l D cy ev (ax 5) (q 3)) (kz_cwS 1 hts wm_465 wm_463 wm_464 wm_2 rfl rfl (by decide +kernel) ⟨Nat.le_of_ble_eq_true rfl, Nat.le_of_ble_eq_true rfl⟩) hK hE (hP.sub (ws' := [zI cy (ax 5) 4 (fun i9 => nI ((q 3) i9))]) [5] rfl) rfl hl.1 rfl (Nat.le_of_ble_eq_true rfl) dX7_count_94 ⟨Nat.le_of_ble_eq_true rfl, Nat.le_of_ble_eq_true rfl⟩ ?_
      exact ro_ri hx hb hr hlk dX7_count_97 (by unfold F_count; rw [hs1]; show _ = nI (sm (q 3) (g 0)); rw [sm_4 hI.n (fun i h1 h2 => (hI.z i h1 h2).1)])
    · skip
      refine lv_tableIn (tgt := 98) (off := 97) hx hb dX7_count_1 (by decide) (by decide) rfl (by decide) ?_
      refine lv_aload_n hx hb dX7_count_98 rfl (lv_at hl 0 rfl) ?_
      refine va_get (ci := 7) (C := RX7) (T := TX7) (N := 9) hx hb hts inX7 hown hK hP 0 rfl rfl 2 (by decide) (hts _ wm_21) (fun _ h9 => h9) rfl dX7_count_99 ?_
      refine va_get (ci := 4) (C := RX4) (T := TX4) (N := 7) hx hb hts inX4 hown hK hP 4 rfl rfl 5 (by decide) (hts _ wm_602) (fun _ h9 => h9) rfl dX7_count_102 ?_
      exact ro_ri hx hb hr hlk dX7_count_105 (by unfold F_count; rw [hs1]; rfl)
    · skip
      refine lv_tableIn (tgt := 106) (off := 105) hx hb dX7_count_1 (by decide) (by decide) rfl (by decide) ?_
      refine lv_aload_n hx hb dX7_count_106 rfl (lv_at hl 0 rfl) ?_
      refine va_get (ci := 7) (C := RX7) (T := TX7) (N := 9) hx hb hts inX7 hown hK hP 0 rfl rfl 0 (by decide) (hts _ wm_15) (fun _ h9 => h9) rfl dX7_count_107 ?_
      refine va_get (ci := 1) (C := RX1) (T := TX1) (N := 2) hx hb hts inX1 hown hK hP 1 rfl rfl 1 (by decide) (hts _ wm_71) (fun _ h9 => h9) rfl dX7_count_110 ?_
      exact ro_ri hx hb hr hlk dX7_count_113 (by unfold F_count; rw [hs1]; rfl)
    · skip
      refine lv_tableIn (tgt := 114) (off := 113) hx hb dX7_count_1 (by decide) (by decide) rfl (by decide) ?_
      refine lv_aload_n hx hb dX7_count_114 rfl (lv_at hl 0 rfl) ?_
      refine va_get (ci := 7) (C := RX7) (T := TX7) (N := 9) hx hb hts inX7 hown hK hP 0 rfl rfl 6 (by decide) (hts _ wm_242) (fun _ h9 => h9) rfl dX7_count_115 ?_
      exact ro_ri hx hb hr hlk dX7_count_118 (by unfold F_count; rw [hs1]; rfl)
    · skip
      refine lv_tableIn (tgt := 119) (off := 118) hx hb dX7_count_1 (by decide) (by decide) rfl (by decide) ?_
      refine lv_aload_n hx hb dX7_count_119 rfl (lv_at hl 0 rfl) ?_
      refine va_get (ci := 7) (C := RX7) (T := TX7) (N := 9) hx hb hts inX7 hown hK hP 0 rfl rfl 8 (by decide) (hts _ wm_534) (fun _ h9 => h9) rfl dX7_count_120 ?_
      exact ro_ri hx hb hr hlk dX7_count_123 (by unfold F_count; rw [hs1]; rfl)
