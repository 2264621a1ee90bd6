set_option maxHeartbeats 4000000 in
set_option maxRecDepth 100000 in
theorem c_X2_kind (l : Launch) (D : va_G) (cy : Nat → ClassId) (ev : kz_V) (a f o : Nat) : Met l yX2_kind (.code yX2_kind cX2_kind 1 (some .int) :: WB) { frames := 0, cells := 0, slots := 0, locals := 0 } (ro_Pc D cy ev [.ref a] [zO a 2 [.int (nI f), .int (nI o)]]) (vp_Si (fun r => r = nI 0)) 0 0 (fun _ => False) := by
  refine Met.ofW (cc := cX2_kind) (maxL := 1) (ret := (some .int)) (by decide) rfl ?_
  intro p e s m args below meth c s₁ B hml hv
  obtain ⟨rfl, hP, hK, hE⟩ := hv
  have hx := B.exec
  have hb := B.bytes
  have hr := B.returns
  have hlk := B.notSynchronized
  have hts : ∀ w ∈ WB, w.before _ s = true := fun w h => atoms_spec B.pre w (List.mem_cons_of_mem _ h)
  have hown : s.vm.findClass RX2 = some m.cls := findClass_of_methodNamed B.named
  have hl := lv_entry ([.ref a]) (n := 1) (Nat.le_of_ble_eq_true rfl)
  rw [lg_entry_eq]
  generalize (lg_sl ([.ref a]) ++ List.replicate (1 - (lg_sl ([.ref a])).length) Slot.unset).toArray = ls at hl ⊢
  have hl : lv_has ls 1 [(0, .ref a)] := hl
  refine lv_iconst (v := nI 0) hx hb dX2_kind_0 (by decide) ?_
  exact ro_ri hx hb hr hlk dX2_kind_1 (rfl)
set_option maxHeartbeats 4000000 in
set_option maxRecDepth 100000 in
theorem c_X2_dread (l : Launch) (D : va_G) (cy : Nat → ClassId) (ev : kz_V) (a f o : Nat) (did : Bool) (hf : f ≤ 9) : Met l yX2_dread (.code yX2_dread cX2_dread 2 (some .int) :: WB) { frames := 0, cells := 0, slots := 0, locals := 0 } (ro_Pc D cy ev [.ref a, .int (bI did)] [zO a 2 [.int (nI f), .int (nI o)]]) (vp_Si (fun r => r = nI (dn 0 f did))) 0 0 (fun _ => False) := by
  refine Met.ofW (cc := cX2_dread) (maxL := 2) (ret := (some .int)) (by decide) rfl ?_
  intro p e s m args below meth c s₁ B hml hv
  obtain ⟨rfl, hP, hK, hE⟩ := hv
  have hx := B.exec
  have hb := B.bytes
  have hr := B.returns
  have hlk := B.notSynchronized
  have hts : ∀ w ∈ WB, w.before _ s = true := fun w h => atoms_spec B.pre w (List.mem_cons_of_mem _ h)
  have hown : s.vm.findClass RX2 = some m.cls := findClass_of_methodNamed B.named
  have hl := lv_entry ([.ref a, .int (bI did)]) (n := 2) (Nat.le_of_ble_eq_true rfl)
  rw [lg_entry_eq]
  generalize (lg_sl ([.ref a, .int (bI did)]) ++ List.replicate (2 - (lg_sl ([.ref a, .int (bI did)])).length) Slot.unset).toArray = ls at hl ⊢
  have hl : lv_has ls 2 [(0, .ref a), (1, .int (bI did))] := hl
  refine lv_iload_n hx hb dX2_dread_0 rfl (lv_at hl 1 rfl) ?_
  refine kt_ifB_eq (tgt := 13) hx hb dX2_dread_1 (by decide) (fun c1 => ?_) (fun c1 => ?_)
  · skip
    refine lv_aload_n hx hb dX2_dread_13 rfl (lv_at hl 0 rfl) ?_
    refine va_get (ci := 2) (C := RX2) (T := TX2) (N := 2) hx hb hts inX2 hown hK hP 0 rfl rfl 0 (by decide) (hts _ wm_290) (fun _ h9 => h9) rfl dX2_dread_14 ?_
    exact ro_ri hx hb hr hlk dX2_dread_17 (by subst c1; rfl)
  · skip
    refine lv_aload_n hx hb dX2_dread_4 rfl (lv_at hl 0 rfl) ?_
    refine va_get (ci := 2) (C := RX2) (T := TX2) (N := 2) hx hb hts inX2 hown hK hP 0 rfl rfl 0 (by decide) (hts _ wm_290) (fun _ h9 => h9) rfl dX2_dread_5 ?_
    refine lv_iconst (v := nI 3) hx hb dX2_dread_8 (by decide) ?_
    refine kn_iadd hx hb dX2_dread_9 ?_
    refine lv_goto (tgt := 17) hx hb dX2_dread_10 (by decide) ?_
    exact ro_ri hx hb hr hlk dX2_dread_17 (by subst c1; rfl)
set_option maxHeartbeats 4000000 in
set_option maxRecDepth 100000 in
theorem c_X0_kind (l : Launch) (D : va_G) (cy : Nat → ClassId) (ev : kz_V) (a f o : Nat) : Met l yX0_kind (.code yX0_kind cX0_kind 1 (some .int) :: WB) { frames := 0, cells := 0, slots := 0, locals := 0 } (ro_Pc D cy ev [.ref a] [zO a 0 [.int (nI f), .int (nI o)]]) (vp_Si (fun r => r = nI 1)) 0 0 (fun _ => False) := by
  refine Met.ofW (cc := cX0_kind) (maxL := 1) (ret := (some .int)) (by decide) rfl ?_
  intro p e s m args below meth c s₁ B hml hv
  obtain ⟨rfl, hP, hK, hE⟩ := hv
  have hx := B.exec
  have hb := B.bytes
  have hr := B.returns
  have hlk := B.notSynchronized
  have hts : ∀ w ∈ WB, w.before _ s = true := fun w h => atoms_spec B.pre w (List.mem_cons_of_mem _ h)
  have hown : s.vm.findClass RX0 = some m.cls := findClass_of_methodNamed B.named
  have hl := lv_entry ([.ref a]) (n := 1) (Nat.le_of_ble_eq_true rfl)
  rw [lg_entry_eq]
  generalize (lg_sl ([.ref a]) ++ List.replicate (1 - (lg_sl ([.ref a])).length) Slot.unset).toArray = ls at hl ⊢
  have hl : lv_has ls 1 [(0, .ref a)] := hl
  refine lv_iconst (v := nI 1) hx hb dX0_kind_0 (by decide) ?_
  exact ro_ri hx hb hr hlk dX0_kind_1 (rfl)
set_option maxHeartbeats 4000000 in
set_option maxRecDepth 100000 in
theorem c_X0_dread (l : Launch) (D : va_G) (cy : Nat → ClassId) (ev : kz_V) (a f o : Nat) (did : Bool) (hf : f ≤ 9) : Met l yX0_dread (.code yX0_dread cX0_dread 2 (some .int) :: WB) { frames := 0, cells := 0, slots := 0, locals := 0 } (ro_Pc D cy ev [.ref a, .int (bI did)] [zO a 0 [.int (nI f), .int (nI o)]]) (vp_Si (fun r => r = nI (dn 1 f did))) 0 0 (fun _ => False) := by
  refine Met.ofW (cc := cX0_dread) (maxL := 2) (ret := (some .int)) (by decide) rfl ?_
  intro p e s m args below meth c s₁ B hml hv
  obtain ⟨rfl, hP, hK, hE⟩ := hv
  have hx := B.exec
  have hb := B.bytes
  have hr := B.returns
  have hlk := B.notSynchronized
  have hts : ∀ w ∈ WB, w.before _ s = true := fun w h => atoms_spec B.pre w (List.mem_cons_of_mem _ h)
  have hown : s.vm.findClass RX0 = some m.cls := findClass_of_methodNamed B.named
  have hl := lv_entry ([.ref a, .int (bI did)]) (n := 2) (Nat.le_of_ble_eq_true rfl)
  rw [lg_entry_eq]
  generalize (lg_sl ([.ref a, .int (bI did)]) ++ List.replicate (2 - (lg_sl ([.ref a, .int (bI did)])).length) Slot.unset).toArray = ls at hl ⊢
  have hl : lv_has ls 2 [(0, .ref a), (1, .int (bI did))] := hl
  refine lv_aload_n hx hb dX0_dread_0 rfl (lv_at hl 0 rfl) ?_
  refine va_get (ci := 0) (C := RX0) (T := TX0) (N := 2) hx hb hts inX0 hown hK hP 0 rfl rfl 0 (by decide) (hts _ wm_357) (u_same (hts _ wm_358)) rfl dX0_dread_1 ?_
  exact ro_ri hx hb hr hlk dX0_dread_4 (by unfold dn; rfl)
set_option maxHeartbeats 4000000 in
set_option maxRecDepth 100000 in
theorem c_X6_kind (l : Launch) (D : va_G) (cy : Nat → ClassId) (ev : kz_V) (a f o : Nat) : Met l yX6_kind (.code yX6_kind cX6_kind 1 (some .int) :: WB) { frames := 0, cells := 0, slots := 0, locals := 0 } (ro_Pc D cy ev [.ref a] [zO a 6 [.int (nI f), .int (nI o)]]) (vp_Si (fun r => r = nI 2)) 0 0 (fun _ => False) := by
  refine Met.ofW (cc := cX6_kind) (maxL := 1) (ret := (some .int)) (by decide) rfl ?_
  intro p e s m args below meth c s₁ B hml hv
  obtain ⟨rfl, hP, hK, hE⟩ := hv
  have hx := B.exec
  have hb := B.bytes
  have hr := B.returns
  have hlk := B.notSynchronized
  have hts : ∀ w ∈ WB, w.before _ s = true := fun w h => atoms_spec B.pre w (List.mem_cons_of_mem _ h)
  have hown : s.vm.findClass RX6 = some m.cls := findClass_of_methodNamed B.named
  have hl := lv_entry ([.ref a]) (n := 1) (Nat.le_of_ble_eq_true rfl)
  rw [lg_entry_eq]
  generalize (lg_sl ([.ref a]) ++ List.replicate (1 - (lg_sl ([.ref a])).length) Slot.unset).toArray = ls at hl ⊢
  have hl : lv_has ls 1 [(0, .ref a)] := hl
  refine lv_iconst (v := nI 2) hx hb dX6_kind_0 (by decide) ?_
  exact ro_ri hx hb hr hlk dX6_kind_1 (rfl)
set_option maxHeartbeats 4000000 in
set_option maxRecDepth 100000 in
theorem c_X6_dread (l : Launch) (D : va_G) (cy : Nat → ClassId) (ev : kz_V) (a f o : Nat) (did : Bool) (hf : f ≤ 9) : Met l yX6_dread (.code yX6_dread cX6_dread 2 (some .int) :: WB) { frames := 0, cells := 0, slots := 0, locals := 0 } (ro_Pc D cy ev [.ref a, .int (bI did)] [zO a 6 [.int (nI f), .int (nI o)]]) (vp_Si (fun r => r = nI (dn 2 f did))) 0 0 (fun _ => False) := by
  refine Met.ofW (cc := cX6_dread) (maxL := 2) (ret := (some .int)) (by decide) rfl ?_
  intro p e s m args below meth c s₁ B hml hv
  obtain ⟨rfl, hP, hK, hE⟩ := hv
  have hx := B.exec
  have hb := B.bytes
  have hr := B.returns
  have hlk := B.notSynchronized
  have hts : ∀ w ∈ WB, w.before _ s = true := fun w h => atoms_spec B.pre w (List.mem_cons_of_mem _ h)
  have hown : s.vm.findClass RX6 = some m.cls := findClass_of_methodNamed B.named
  have hl := lv_entry ([.ref a, .int (bI did)]) (n := 2) (Nat.le_of_ble_eq_true rfl)
  rw [lg_entry_eq]
  generalize (lg_sl ([.ref a, .int (bI did)]) ++ List.replicate (2 - (lg_sl ([.ref a, .int (bI did)])).length) Slot.unset).toArray = ls at hl ⊢
  have hl : lv_has ls 2 [(0, .ref a), (1, .int (bI did))] := hl
  refine lv_aload_n hx hb dX6_dread_0 rfl (lv_at hl 0 rfl) ?_
  refine va_get (ci := 6) (C := RX6) (T := TX6) (N := 2) hx hb hts inX6 hown hK hP 0 rfl rfl 0 (by decide) (hts _ wm_374) (u_same (hts _ wm_375)) rfl dX6_dread_1 ?_
  refine lv_iconst (v := nI 3) hx hb dX6_dread_4 (by decide) ?_
  refine kn_iadd hx hb dX6_dread_5 ?_
  exact ro_ri hx hb hr hlk dX6_dread_6 (rfl)
set_option maxHeartbeats 4000000 in
set_option maxRecDepth 100000 in
theorem c_X3_kind (l : Launch) (D : va_G) (cy : Nat → ClassId) (ev : kz_V) (a f o : Nat) : Met l yX3_kind (.code yX3_kind cX3_kind 1 (some .int) :: WB) { frames := 0, cells := 0, slots := 0, locals := 0 } (ro_Pc D cy ev [.ref a] [zO a 3 [.int (nI f), .int (nI o)]]) (vp_Si (fun r => r = nI 3)) 0 0 (fun _ => False) := by
  refine Met.ofW (cc := cX3_kind) (maxL := 1) (ret := (some .int)) (by decide) rfl ?_
  intro p e s m args below meth c s₁ B hml hv
  obtain ⟨rfl, hP, hK, hE⟩ := hv
  have hx := B.exec
  have hb := B.bytes
  have hr := B.returns
  have hlk := B.notSynchronized
  have hts : ∀ w ∈ WB, w.before _ s = true := fun w h => atoms_spec B.pre w (List.mem_cons_of_mem _ h)
  have hown : s.vm.findClass RX3 = some m.cls := findClass_of_methodNamed B.named
  have hl := lv_entry ([.ref a]) (n := 1) (Nat.le_of_ble_eq_true rfl)
  rw [lg_entry_eq]
  generalize (lg_sl ([.ref a]) ++ List.replicate (1 - (lg_sl ([.ref a])).length) Slot.unset).toArray = ls at hl ⊢
  have hl : lv_has ls 1 [(0, .ref a)] := hl
  refine lv_iconst (v := nI 3) hx hb dX3_kind_0 (by decide) ?_
  exact ro_ri hx hb hr hlk dX3_kind_1 (rfl)
set_option maxHeartbeats 4000000 in
set_option maxRecDepth 100000 in
theorem c_X3_dread (l : Launch) (D : va_G) (cy : Nat → ClassId) (ev : kz_V) (a f o : Nat) (did : Bool) (hf : f ≤ 9) : Met l yX3_dread (.code yX3_dread cX3_dread 2 (some .int) :: WB) { frames := 0, cells := 0, slots := 0, locals := 0 } (ro_Pc D cy ev [.ref a, .int (bI did)] [zO a 3 [.int (nI f), .int (nI o)]]) (vp_Si (fun r => r = nI (dn 3 f did))) 0 0 (fun _ => False) := by
  refine Met.ofW (cc := cX3_dread) (maxL := 2) (ret := (some .int)) (by decide) rfl ?_
  intro p e s m args below meth c s₁ B hml hv
  obtain ⟨rfl, hP, hK, hE⟩ := hv
  have hx := B.exec
  have hb := B.bytes
  have hr := B.returns
  have hlk := B.notSynchronized
  have hts : ∀ w ∈ WB, w.before _ s = true := fun w h => atoms_spec B.pre w (List.mem_cons_of_mem _ h)
  have hown : s.vm.findClass RX3 = some m.cls := findClass_of_methodNamed B.named
  have hl := lv_entry ([.ref a, .int (bI did)]) (n := 2) (Nat.le_of_ble_eq_true rfl)
  rw [lg_entry_eq]
  generalize (lg_sl ([.ref a, .int (bI did)]) ++ List.replicate (2 - (lg_sl ([.ref a, .int (bI did)])).length) Slot.unset).toArray = ls at hl ⊢
  have hl : lv_has ls 2 [(0, .ref a), (1, .int (bI did))] := hl
  refine lv_iload_n hx hb dX3_dread_0 rfl (lv_at hl 1 rfl) ?_
  refine kt_ifB_eq (tgt := 15) hx hb dX3_dread_1 (by decide) (fun c1 => ?_) (fun c1 => ?_)
  · skip
    refine lv_aload_n hx hb dX3_dread_15 rfl (lv_at hl 0 rfl) ?_
    refine va_get (ci := 3) (C := RX3) (T := TX3) (N := 2) hx hb hts inX3 hown hK hP 0 rfl rfl 0 (by decide) (hts _ wm_364) (u_same (hts _ wm_365)) rfl dX3_dread_16 ?_
    refine lv_iconst (v := nI 2) hx hb dX3_dread_19 (by decide) ?_
    refine kn_idiv hx hb dX3_dread_20 (by omega) (by omega) (by omega) ?_
    exact ro_ri hx hb hr hlk dX3_dread_21 (by subst c1; rfl)
  · skip
    refine lv_aload_n hx hb dX3_dread_4 rfl (lv_at hl 0 rfl) ?_
    refine va_get (ci := 3) (C := RX3) (T := TX3) (N := 2) hx hb hts inX3 hown hK hP 0 rfl rfl 0 (by decide) (hts _ wm_364) (u_same (hts _ wm_365)) rfl dX3_dread_5 ?_
    refine lv_iconst (v := nI 2) hx hb dX3_dread_8 (by decide) ?_
    refine kn_idiv hx hb dX3_dread_9 (by omega) (by omega) (by omega) ?_
    refine lv_iconst (v := nI 3) hx hb dX3_dread_10 (by decide) ?_
    refine kn_iadd hx hb dX3_dread_11 ?_
    refine lv_goto (tgt := 21) hx hb dX3_dread_12 (by decide) ?_
    exact ro_ri hx hb hr hlk dX3_dread_21 (by subst c1; rfl)
set_option maxHeartbeats 4000000 in
set_option maxRecDepth 100000 in
theorem c_X5_kind (l : Launch) (D : va_G) (cy : Nat → ClassId) (ev : kz_V) (a f o : Nat) : Met l yX5_kind (.code yX5_kind cX5_kind 1 (some .int) :: WB) { frames := 0, cells := 0, slots := 0, locals := 0 } (ro_Pc D cy ev [.ref a] [zO a 5 [.int (nI f), .int (nI o)]]) (vp_Si (fun r => r = nI 4)) 0 0 (fun _ => False) := by
  refine Met.ofW (cc := cX5_kind) (maxL := 1) (ret := (some .int)) (by decide) rfl ?_
  intro p e s m args below meth c s₁ B hml hv
  obtain ⟨rfl, hP, hK, hE⟩ := hv
  have hx := B.exec
  have hb := B.bytes
  have hr := B.returns
  have hlk := B.notSynchronized
  have hts : ∀ w ∈ WB, w.before _ s = true := fun w h => atoms_spec B.pre w (List.mem_cons_of_mem _ h)
  have hown : s.vm.findClass RX5 = some m.cls := findClass_of_methodNamed B.named
  have hl := lv_entry ([.ref a]) (n := 1) (Nat.le_of_ble_eq_true rfl)
  rw [lg_entry_eq]
  generalize (lg_sl ([.ref a]) ++ List.replicate (1 - (lg_sl ([.ref a])).length) Slot.unset).toArray = ls at hl ⊢
  have hl : lv_has ls 1 [(0, .ref a)] := hl
  refine lv_iconst (v := nI 4) hx hb dX5_kind_0 (by decide) ?_
  exact ro_ri hx hb hr hlk dX5_kind_1 (rfl)
set_option maxHeartbeats 4000000 in
set_option maxRecDepth 100000 in
theorem c_X5_dread (l : Launch) (D : va_G) (cy : Nat → ClassId) (ev : kz_V) (a f o : Nat) (did : Bool) (hf : f ≤ 9) : Met l yX5_dread (.code yX5_dread cX5_dread 2 (some .int) :: WB) { frames := 0, cells := 0, slots := 0, locals := 0 } (ro_Pc D cy ev [.ref a, .int (bI did)] [zO a 5 [.int (nI f), .int (nI o)]]) (vp_Si (fun r => r = nI (dn 4 f did))) 0 0 (fun _ => False) := by
  refine Met.ofW (cc := cX5_dread) (maxL := 2) (ret := (some .int)) (by decide) rfl ?_
  intro p e s m args below meth c s₁ B hml hv
  obtain ⟨rfl, hP, hK, hE⟩ := hv
  have hx := B.exec
  have hb := B.bytes
  have hr := B.returns
  have hlk := B.notSynchronized
  have hts : ∀ w ∈ WB, w.before _ s = true := fun w h => atoms_spec B.pre w (List.mem_cons_of_mem _ h)
  have hown : s.vm.findClass RX5 = some m.cls := findClass_of_methodNamed B.named
  have hl := lv_entry ([.ref a, .int (bI did)]) (n := 2) (Nat.le_of_ble_eq_true rfl)
  rw [lg_entry_eq]
  generalize (lg_sl ([.ref a, .int (bI did)]) ++ List.replicate (2 - (lg_sl ([.ref a, .int (bI did)])).length) Slot.unset).toArray = ls at hl ⊢
  have hl : lv_has ls 2 [(0, .ref a), (1, .int (bI did))] := hl
  refine lv_iload_n hx hb dX5_dread_0 rfl (lv_at hl 1 rfl) ?_
  refine kt_ifB_eq (tgt := 8) hx hb dX5_dread_1 (by decide) (fun c1 => ?_) (fun c1 => ?_)
  · skip
    refine lv_aload_n hx hb dX5_dread_8 rfl (lv_at hl 0 rfl) ?_
    refine va_get (ci := 5) (C := RX5) (T := TX5) (N := 2) hx hb hts inX5 hown hK hP 0 rfl rfl 0 (by decide) (hts _ wm_369) (u_same (hts _ wm_370)) rfl dX5_dread_9 ?_
    exact ro_ri hx hb hr hlk dX5_dread_12 (by subst c1; rfl)
  · skip
    refine lv_iconst (v := nI 0) hx hb dX5_dread_4 (by decide) ?_
    refine lv_goto (tgt := 12) hx hb dX5_dread_5 (by decide) ?_
    exact ro_ri hx hb hr hlk dX5_dread_12 (by subst c1; rfl)
theorem kz_one {D : va_G} {cl : List vw_C} {ws : va_W} {H : Heap} {x : Nat × va_E} (hP : va_P D cl ws H) (q0 : Nat) (h : ws[q0]? = some x) : va_P D cl [x] H := hP.sub [q0] (by simp [h])
section PV1
variable {p : Program} {l : Launch} {e : Env} {R : Room} {s : State} {m : MethodId} {args : Array Value} {below : List Frame} {meth : Method} {c : Code} {H : Heap} {locs : List Loc} {cells slots : Nat} {Q : State → Prop}
variable {cc : ByteArray} {pc : Nat} {ls : Array Slot} {rest : List Value} {D : va_G} {cy : Nat → ClassId} {ev : kz_V} {ws : va_W}
set_option maxHeartbeats 4000000 in
theorem pv_dread_X2 (hx : p.tables.exec = Jvm.exec) (hb : c.code = cc) (hml : c.maxLocals = ls.size) (hown : s.vm.findClass RX2 = some m.cls) (hts : ∀ w ∈ WB, w.before args s = true) (hK : va_K D vwCl (kz_ty cy) s) (hE : kz_E ev s H) (hP : va_P D vwCl ws H) (q0 : Nat) {a k f o : Nat} {did : Bool} (hk : k < 5) (he : ws[q0]? = some (zO a (pk k) [.int (nI f), .int (nI o)])) (hfe : f ≤ 9) (hR : 0 + 1 ≤ R.frames ∧ 8 + (2 + 11) + 0 ≤ R.locals) (hW : (rest.map fun v => v.category).sum ≤ 8) (hdg : decode cc pc = .ok (.invokevirtual 18, 3)) (hf : cells ≤ R.cells ∧ slots ≤ R.slots) (kk : W p l e R s m args below meth c H locs cells slots Q (F0 m (pc + 3) ls (.int (nI (dn k f did)) :: rest))) : W p l e R s m args below meth c H locs cells slots Q (F0 m pc ls (.int (bI did) :: .ref a :: rest)) := by
  rcases k_cases hk with rfl | rfl | rfl | rfl | rfl
  · exact ro_Vi (As := [.int (bI did)]) (rest := rest) (v := nI (dn 0 f did)) ⟨hx, hb, hml, hown, hts⟩ (c_X2_dread l D cy ev a f o did hfe) (kz_cwV 1 hts wm_359 wm_351 wm_353 wm_360 wm_282 rfl rfl (by decide +kernel) hR) hK hE (kz_one hP q0 he) (kz_recv (ci := 2) 0 hK (kz_one hP q0 he) rfl rfl) rfl rfl rfl hW hdg hf kk
  · exact ro_Ui (As := [.int (bI did)]) (rest := rest) (v := nI (dn 1 f did)) ⟨hx, hb, hml, hown, hts⟩ (c_X0_dread l D cy ev a f o did hfe) (kz_cwO (owner := "DryLoaf$Person") (x := yX2_dread) 1 hts wm_356 wm_359 wm_351 wm_352 wm_353 wm_354 wm_355 wm_270 rfl rfl (by decide +kernel) hR) hK hE (kz_one hP q0 he) (kz_recv (ci := 0) 0 hK (kz_one hP q0 he) rfl rfl) rfl rfl rfl hW hdg hf kk
  · exact ro_Ui (As := [.int (bI did)]) (rest := rest) (v := nI (dn 2 f did)) ⟨hx, hb, hml, hown, hts⟩ (c_X6_dread l D cy ev a f o did hfe) (kz_cwO (owner := "DryLoaf$Person") (x := yX2_dread) 1 hts wm_373 wm_359 wm_351 wm_352 wm_353 wm_371 wm_372 wm_273 rfl rfl (by decide +kernel) hR) hK hE (kz_one hP q0 he) (kz_recv (ci := 6) 0 hK (kz_one hP q0 he) rfl rfl) rfl rfl rfl hW hdg hf kk
  · exact ro_Ui (As := [.int (bI did)]) (rest := rest) (v := nI (dn 3 f did)) ⟨hx, hb, hml, hown, hts⟩ (c_X3_dread l D cy ev a f o did hfe) (kz_cwO (owner := "DryLoaf$Person") (x := yX2_dread) 1 hts wm_363 wm_359 wm_351 wm_352 wm_353 wm_361 wm_362 wm_276 rfl rfl (by decide +kernel) hR) hK hE (kz_one hP q0 he) (kz_recv (ci := 3) 0 hK (kz_one hP q0 he) rfl rfl) rfl rfl rfl hW hdg hf kk
  · exact ro_Ui (As := [.int (bI did)]) (rest := rest) (v := nI (dn 4 f did)) ⟨hx, hb, hml, hown, hts⟩ (c_X5_dread l D cy ev a f o did hfe) (kz_cwO (owner := "DryLoaf$Person") (x := yX2_dread) 1 hts wm_368 wm_359 wm_351 wm_352 wm_353 wm_366 wm_367 wm_279 rfl rfl (by decide +kernel) hR) hK hE (kz_one hP q0 he) (kz_recv (ci := 5) 0 hK (kz_one hP q0 he) rfl rfl) rfl rfl rfl hW hdg hf kk
end PV1
set_option maxHeartbeats 4000000 in
set_option maxRecDepth 100000 in
theorem c_X2_tenths (l : Launch) (D : va_G) (cy : Nat → ClassId) (ev : kz_V) (a k f o y t : Nat) (did : Bool) (hk : k < 5) (hf : f ≤ 9) (hy : y ≤ 100) (ht : t ≤ 100) : Met l yX2_tenths (.code yX2_tenths cX2_tenths 4 (some .int) :: WB) { frames := 1, cells := 0, slots := 0, locals := 21 } (ro_Pc D cy ev [.ref a, .int (bI did), .int (nI y), .int (nI t)] [zO a (pk k) [.int (nI f), .int (nI o)]]) (vp_Si (fun r => r = nI (tn (dn k f did) y t))) 0 0 (fun _ => False) := by
  refine Met.ofW (cc := cX2_tenths) (maxL := 4) (ret := (some .int)) (by decide) rfl ?_
  intro p e s m args below meth c s₁ B hml hv
  obtain ⟨rfl, hP, hK, hE⟩ := hv
  have hx := B.exec
  have hb := B.bytes
  have hr := B.returns
  have hlk := B.notSynchronized
  have hts : ∀ w ∈ WB, w.before _ s = true := fun w h => atoms_spec B.pre w (List.mem_cons_of_mem _ h)
  have hown : s.vm.findClass RX2 = some m.cls := findClass_of_methodNamed B.named
  have hl := lv_entry ([.ref a, .int (bI did), .int (nI y), .int (nI t)]) (n := 4) (Nat.le_of_ble_eq_true rfl)
  rw [lg_entry_eq]
  generalize (lg_sl ([.ref a, .int (bI did), .int (nI y), .int (nI t)]) ++ List.replicate (4 - (lg_sl ([.ref a, .int (bI did), .int (nI y), .int (nI t)])).length) Slot.unset).toArray = ls at hl ⊢
  have hl : lv_has ls 4 [(0, .ref a), (1, .int (bI did)), (2, .int (nI y)), (3, .int (nI t))] := hl
  refine lv_iconst (v := nI 0) hx hb dX2_tenths_0 (by decide) ?_
  refine lv_bipush (v := nI 10) hx hb dX2_tenths_1 (by decide) ?_
  refine lv_aload_n hx hb dX2_tenths_3 rfl (lv_at hl 0 rfl) ?_
  refine lv_iload_n hx hb dX2_tenths_4 rfl (lv_at hl 1 rfl) ?_
  refine pv_dread_X2 (rest := [.int (nI 10), .int (nI 0)]) hx hb (hml.trans hl.1.symm) hown hts hK hE hP 0 hk rfl hf ⟨Nat.le_of_ble_eq_true rfl, Nat.le_of_ble_eq_true rfl⟩ (Nat.le_of_ble_eq_true rfl) dX2_tenths_5 ⟨Nat.le_of_ble_eq_true rfl, Nat.le_of_ble_eq_true rfl⟩ ?_
  refine lv_iload_n hx hb dX2_tenths_8 rfl (lv_at hl 2 rfl) ?_
  refine kn_iadd hx hb dX2_tenths_9 ?_
  refine lv_iload_n hx hb dX2_tenths_10 rfl (lv_at hl 3 rfl) ?_
  refine lv_isub hx hb dX2_tenths_11 ?_
  refine lv_iconst (v := nI 5) hx hb dX2_tenths_12 (by decide) ?_
  refine lv_isub hx hb dX2_tenths_13 ?_
  refine va_mmin hx hb (hml.trans hl.1.symm) hown (hts _ wm_349) (hts _ wm_146) (hts _ wm_143) (hts _ wm_147) (Nat.le_of_ble_eq_true rfl) (Nat.le_of_ble_eq_true rfl) (Nat.le_of_ble_eq_true rfl) (Nat.le_of_ble_eq_true rfl) dX2_tenths_14 ?_
  refine va_mmax hx hb (hml.trans hl.1.symm) hown (hts _ wm_350) (hts _ wm_142) (hts _ wm_143) (hts _ wm_144) (Nat.le_of_ble_eq_true rfl) (Nat.le_of_ble_eq_true rfl) (Nat.le_of_ble_eq_true rfl) (Nat.le_of_ble_eq_true rfl) dX2_tenths_17 ?_
  exact ro_ri hx hb hr hlk dX2_tenths_20 (tn_class (Nat.le_trans (dn_le did hf) (by decide)) hy ht)
section PV2
variable {p : Program} {l : Launch} {e : Env} {R : Room} {s : State} {m : MethodId} {args : Array Value} {below : List Frame} {meth : Method} {c : Code} {H : Heap} {locs : List Loc} {cells slots : Nat} {Q : State → Prop}
variable {cc : ByteArray} {pc : Nat} {ls : Array Slot} {rest : List Value} {D : va_G} {cy : Nat → ClassId} {ev : kz_V} {ws : va_W}
set_option maxHeartbeats 4000000 in
theorem pv_tenths_X2 (hx : p.tables.exec = Jvm.exec) (hb : c.code = cc) (hml : c.maxLocals = ls.size) (hown : s.vm.findClass RX2 = some m.cls) (hts : ∀ w ∈ WB, w.before args s = true) (hK : va_K D vwCl (kz_ty cy) s) (hE : kz_E ev s H) (hP : va_P D vwCl ws H) (q0 : Nat) {a k f o : Nat} {y t : Nat} {did : Bool} (hk : k < 5) (he : ws[q0]? = some (zO a (pk k) [.int (nI f), .int (nI o)])) (hfe : f ≤ 9) (hy : y ≤ 100) (ht : t ≤ 100) (hR : 1 + 1 ≤ R.frames ∧ 8 + (4 + 11) + 21 ≤ R.locals) (hW : (rest.map fun v => v.category).sum ≤ 8) (hdg : decode cc pc = .ok (.invokevirtual 31, 3)) (hf : cells ≤ R.cells ∧ slots ≤ R.slots) (kk : W p l e R s m args below meth c H locs cells slots Q (F0 m (pc + 3) ls (.int (nI (tn (dn k f did) y t)) :: rest))) : W p l e R s m args below meth c H locs cells slots Q (F0 m pc ls (.int (nI t) :: .int (nI y) :: .int (bI did) :: .ref a :: rest)) := by
  rcases k_cases hk with rfl | rfl | rfl | rfl | rfl
  · exact ro_Vi (As := [.int (bI did), .int (nI y), .int (nI t)]) (rest := rest) (v := nI (tn (dn 0 f did) y t)) ⟨hx, hb, hml, hown, hts⟩ (c_X2_tenths l D cy ev a 0 f o y t did (by decide) hfe hy ht) (kz_cwV 3 hts wm_348 wm_385 wm_347 wm_376 wm_282 rfl rfl (by decide +kernel) hR) hK hE (kz_one hP q0 he) (kz_recv (ci := 2) 0 hK (kz_one hP q0 he) rfl rfl) rfl rfl rfl hW hdg hf kk
  · exact ro_Ui (As := [.int (bI did), .int (nI y), .int (nI t)]) (rest := rest) (v := nI (tn (dn 1 f did) y t)) ⟨hx, hb, hml, hown, hts⟩ (c_X2_tenths l D cy ev a 1 f o y t did (by decide) hfe hy ht) (kz_cwU (owner := "DryLoaf$Person") (x := yX2_tenths) 3 hts wm_348 wm_385 wm_345 wm_346 wm_347 wm_282 rfl rfl rfl (by decide +kernel) hR) hK hE (kz_one hP q0 he) (kz_recv (ci := 0) 0 hK (kz_one hP q0 he) rfl rfl) rfl rfl rfl hW hdg hf kk
  · exact ro_Ui (As := [.int (bI did), .int (nI y), .int (nI t)]) (rest := rest) (v := nI (tn (dn 2 f did) y t)) ⟨hx, hb, hml, hown, hts⟩ (c_X2_tenths l D cy ev a 2 f o y t did (by decide) hfe hy ht) (kz_cwU (owner := "DryLoaf$Person") (x := yX2_tenths) 3 hts wm_348 wm_385 wm_345 wm_379 wm_347 wm_282 rfl rfl rfl (by decide +kernel) hR) hK hE (kz_one hP q0 he) (kz_recv (ci := 6) 0 hK (kz_one hP q0 he) rfl rfl) rfl rfl rfl hW hdg hf kk
  · exact ro_Ui (As := [.int (bI did), .int (nI y), .int (nI t)]) (rest := rest) (v := nI (tn (dn 3 f did) y t)) ⟨hx, hb, hml, hown, hts⟩ (c_X2_tenths l D cy ev a 3 f o y t did (by decide) hfe hy ht) (kz_cwU (owner := "DryLoaf$Person") (x := yX2_tenths) 3 hts wm_348 wm_385 wm_345 wm_377 wm_347 wm_282 rfl rfl rfl (by decide +kernel) hR) hK hE (kz_one hP q0 he) (kz_recv (ci := 3) 0 hK (kz_one hP q0 he) rfl rfl) rfl rfl rfl hW hdg hf kk
  · exact ro_Ui (As := [.int (bI did), .int (nI y), .int (nI t)]) (rest := rest) (v := nI (tn (dn 4 f did) y t)) ⟨hx, hb, hml, hown, hts⟩ (c_X2_tenths l D cy ev a 4 f o y t did (by decide) hfe hy ht) (kz_cwU (owner := "DryLoaf$Person") (x := yX2_tenths) 3 hts wm_348 wm_385 wm_345 wm_378 wm_347 wm_282 rfl rfl rfl (by decide +kernel) hR) hK hE (kz_one hP q0 he) (kz_recv (ci := 5) 0 hK (kz_one hP q0 he) rfl rfl) rfl rfl rfl hW hdg hf kk
set_option maxHeartbeats 4000000 in
theorem pv_tenths_X7 (hx : p.tables.exec = Jvm.exec) (hb : c.code = cc) (hml : c.maxLocals = ls.size) (hown : s.vm.findClass RX7 = some m.cls) (hts : ∀ w ∈ WB, w.before args s = true) (hK : va_K D vwCl (kz_ty cy) s) (hE : kz_E ev s H) (hP : va_P D vwCl ws H) (q0 : Nat) {a k f o : Nat} {y t : Nat} {did : Bool} (hk : k < 5) (he : ws[q0]? = some (zO a (pk k) [.int (nI f), .int (nI o)])) (hfe : f ≤ 9) (hy : y ≤ 100) (ht : t ≤ 100) (hR : 1 + 1 ≤ R.frames ∧ 8 + (4 + 11) + 21 ≤ R.locals) (hW : (rest.map fun v => v.category).sum ≤ 8) (hdg : decode cc pc = .ok (.invokevirtual 97, 3)) (hf : cells ≤ R.cells ∧ slots ≤ R.slots) (kk : W p l e R s m args below meth c H locs cells slots Q (F0 m (pc + 3) ls (.int (nI (tn (dn k f did) y t)) :: rest))) : W p l e R s m args below meth c H locs cells slots Q (F0 m pc ls (.int (nI t) :: .int (nI y) :: .int (bI did) :: .ref a :: rest)) := by
  rcases k_cases hk with rfl | rfl | rfl | rfl | rfl
  · exact ro_Vi (As := [.int (bI did), .int (nI y), .int (nI t)]) (rest := rest) (v := nI (tn (dn 0 f did) y t)) ⟨hx, hb, hml, hown, hts⟩ (c_X2_tenths l D cy ev a 0 f o y t did (by decide) hfe hy ht) (kz_cwV 3 hts wm_348 wm_344 wm_347 wm_376 wm_282 rfl rfl (by decide +kernel) hR) hK hE (kz_one hP q0 he) (kz_recv (ci := 2) 0 hK (kz_one hP q0 he) rfl rfl) rfl rfl rfl hW hdg hf kk
  · exact ro_Ui (As := [.int (bI did), .int (nI y), .int (nI t)]) (rest := rest) (v := nI (tn (dn 1 f did) y t)) ⟨hx, hb, hml, hown, hts⟩ (c_X2_tenths l D cy ev a 1 f o y t did (by decide) hfe hy ht) (kz_cwU (owner := "DryLoaf$Person") (x := yX2_tenths) 3 hts wm_348 wm_344 wm_345 wm_346 wm_347 wm_282 rfl rfl rfl (by decide +kernel) hR) hK hE (kz_one hP q0 he) (kz_recv (ci := 0) 0 hK (kz_one hP q0 he) rfl rfl) rfl rfl rfl hW hdg hf kk
  · exact ro_Ui (As := [.int (bI did), .int (nI y), .int (nI t)]) (rest := rest) (v := nI (tn (dn 2 f did) y t)) ⟨hx, hb, hml, hown, hts⟩ (c_X2_tenths l D cy ev a 2 f o y t did (by decide) hfe hy ht) (kz_cwU (owner := "DryLoaf$Person") (x := yX2_tenths) 3 hts wm_348 wm_344 wm_345 wm_379 wm_347 wm_282 rfl rfl rfl (by decide +kernel) hR) hK hE (kz_one hP q0 he) (kz_recv (ci := 6) 0 hK (kz_one hP q0 he) rfl rfl) rfl rfl rfl hW hdg hf kk
  · exact ro_Ui (As := [.int (bI did), .int (nI y), .int (nI t)]) (rest := rest) (v := nI (tn (dn 3 f did) y t)) ⟨hx, hb, hml, hown, hts⟩ (c_X2_tenths l D cy ev a 3 f o y t did (by decide) hfe hy ht) (kz_cwU (owner := "DryLoaf$Person") (x := yX2_tenths) 3 hts wm_348 wm_344 wm_345 wm_377 wm_347 wm_282 rfl rfl rfl (by decide +kernel) hR) hK hE (kz_one hP q0 he) (kz_recv (ci := 3) 0 hK (kz_one hP q0 he) rfl rfl) rfl rfl rfl hW hdg hf kk
  · exact ro_Ui (As := [.int (bI did), .int (nI y), .int (nI t)]) (rest := rest) (v := nI (tn (dn 4 f did) y t)) ⟨hx, hb, hml, hown, hts⟩ (c_X2_tenths l D cy ev a 4 f o y t did (by decide) hfe hy ht) (kz_cwU (owner := "DryLoaf$Person") (x := yX2_tenths) 3 hts wm_348 wm_344 wm_345 wm_378 wm_347 wm_282 rfl rfl rfl (by decide +kernel) hR) hK hE (kz_one hP q0 he) (kz_recv (ci := 5) 0 hK (kz_one hP q0 he) rfl rfl) rfl rfl rfl hW hdg hf kk
end PV2
set_option maxHeartbeats 4000000 in
set_option maxRecDepth 100000 in
theorem c_X2_need (l : Launch) (D : va_G) (cy : Nat → ClassId) (ev : kz_V) (a k f o y : Nat) (hk : k < 5) (hf : f ≤ 9) (hy : y ≤ 100) : Met l yX2_need (.code yX2_need cX2_need 3 (some .int) :: WB) { frames := 2, cells := 0, slots := 0, locals := 44 } (ro_Pc D cy ev [.ref a, .int (nI y)] [zO a (pk k) [.int (nI f), .int (nI o)]]) (vp_Si (fun r => r = need k f y)) 0 0 (fun _ => False) := by
  refine Met.ofW (cc := cX2_need) (maxL := 3) (ret := (some .int)) (by decide) rfl ?_
  intro p e s m args below meth c s₁ B hml hv
  obtain ⟨rfl, hP, hK, hE⟩ := hv
  have hx := B.exec
  have hb := B.bytes
  have hr := B.returns
  have hlk := B.notSynchronized
  have hts : ∀ w ∈ WB, w.before _ s = true := fun w h => atoms_spec B.pre w (List.mem_cons_of_mem _ h)
  have hown : s.vm.findClass RX2 = some m.cls := findClass_of_methodNamed B.named
  have hl := lv_entry ([.ref a, .int (nI y)]) (n := 3) (Nat.le_of_ble_eq_true rfl)
  rw [lg_entry_eq]
  generalize (lg_sl ([.ref a, .int (nI y)]) ++ List.replicate (3 - (lg_sl ([.ref a, .int (nI y)])).length) Slot.unset).toArray = ls at hl ⊢
  have hl : lv_has ls 3 [(0, .ref a), (1, .int (nI y))] := hl
  refine lv_iconst (v := nI 0) hx hb dX2_need_0 (by decide) ?_
  refine lv_istore_n (lv' := [(2, .int (nI 0)), (0, .ref a), (1, .int (nI y))]) hx hb dX2_need_1 rfl hl (by decide) rfl (fun ls hl => ?_)
  refine kn_loopR (α := Unit) (10) (fun i _ ls => (i ≤ 10) ∧ (need k f y = ndF (ndB k f y) (10 - i) i) ∧ lv_has ls 3 [(0, .ref a), (1, .int (nI y)), (2, .int (nI i))]) (0) (()) ⟨(by decide), rfl, lv_sub hl [1, 2, 0] rfl⟩ (fun i _ ls hI ih2 => ?_)
  obtain ⟨hi, hq, hl⟩ := hI
  refine lv_iload_n hx hb dX2_need_2 rfl (lv_at hl 2 rfl) ?_
  refine lv_bipush (v := nI 9) hx hb dX2_need_3 (by decide) ?_
  refine kt_icmp_gt (tgt := 36) hx hb dX2_need_5 (by decide) (nI_toInt (by omega)) (nI_toInt (by decide)) (fun c5 => ?_) (fun c5 => ?_)
  · skip
    refine lv_iconst (v := (-1)) hx hb dX2_need_36 (by decide) ?_
    exact ro_ri hx hb hr hlk dX2_need_37 (by rw [hq, show i = 10 by omega]; rfl)
  · skip
    refine lv_aload_n hx hb dX2_need_8 rfl (lv_at hl 0 rfl) ?_
    refine lv_iconst (v := nI 1) hx hb dX2_need_9 (by decide) ?_
    refine lv_iload_n hx hb dX2_need_10 rfl (lv_at hl 1 rfl) ?_
    refine lv_iload_n hx hb dX2_need_11 rfl (lv_at hl 2 rfl) ?_
    refine kn_as (st' := [.int (nI i), .int (nI y), .int (bI true), .ref a]) rfl ?_
    refine pv_tenths_X2 (rest := []) hx hb (hml.trans hl.1.symm) hown hts hK hE hP 0 hk rfl hf (by omega) (by omega) ⟨Nat.le_of_ble_eq_true rfl, Nat.le_of_ble_eq_true rfl⟩ (Nat.le_of_ble_eq_true rfl) dX2_need_12 ⟨Nat.le_of_ble_eq_true rfl, Nat.le_of_ble_eq_true rfl⟩ ?_
    have ht12 : tn (dn k f true) y i ≤ 10 := tn_le _ _ _
    refine kt_if_ne (tgt := 30) hx hb dX2_need_15 (by decide) (nI_toInt (by omega)) (fun c15 => ?_) (fun c15 => ?_)
    · skip
      refine kn_iinc (k := 2) (x := i) (d := 1) (lv' := [(2, .int (nI (i + 1))), (0, .ref a), (1, .int (nI y))]) hx hb dX2_need_30 hl rfl (by decide) rfl (fun ls hl => ?_)
      refine lv_goto (tgt := 2) hx hb dX2_need_33 (by decide) ?_
      exact ih2 (()) _ (by omega) ⟨(by omega), hq.trans (ndF_miss (by omega) (by unfold ndB; rw [Bool.and_eq_false_iff]; left; rw [decide_eq_false_iff_not]; omega)), lv_sub hl [1, 2, 0] rfl⟩
    · skip
      refine lv_aload_n hx hb dX2_need_18 rfl (lv_at hl 0 rfl) ?_
      refine lv_iconst (v := nI 0) hx hb dX2_need_19 (by decide) ?_
      refine lv_iload_n hx hb dX2_need_20 rfl (lv_at hl 1 rfl) ?_
      refine lv_iload_n hx hb dX2_need_21 rfl (lv_at hl 2 rfl) ?_
      refine kn_as (st' := [.int (nI i), .int (nI y), .int (bI false), .ref a]) rfl ?_
      refine pv_tenths_X2 (rest := []) hx hb (hml.trans hl.1.symm) hown hts hK hE hP 0 hk rfl hf (by omega) (by omega) ⟨Nat.le_of_ble_eq_true rfl, Nat.le_of_ble_eq_true rfl⟩ (Nat.le_of_ble_eq_true rfl) dX2_need_22 ⟨Nat.le_of_ble_eq_true rfl, Nat.le_of_ble_eq_true rfl⟩ ?_
      have ht22 : tn (dn k f false) y i ≤ 10 := tn_le _ _ _
      refine kt_if_ne (tgt := 30) hx hb dX2_need_25 (by decide) (nI_toInt (by omega)) (fun c25 => ?_) (fun c25 => ?_)
      · skip
        refine kn_iinc (k := 2) (x := i) (d := 1) (lv' := [(2, .int (nI (i + 1))), (0, .ref a), (1, .int (nI y))]) hx hb dX2_need_30 hl rfl (by decide) rfl (fun ls hl => ?_)
        refine lv_goto (tgt := 2) hx hb dX2_need_33 (by decide) ?_
        exact ih2 (()) _ (by omega) ⟨(by omega), hq.trans (ndF_miss (by omega) (by unfold ndB; rw [Bool.and_eq_false_iff]; right; rw [decide_eq_false_iff_not]; omega)), lv_sub hl [1, 2, 0] rfl⟩
      · skip
        refine lv_iload_n hx hb dX2_need_28 rfl (lv_at hl 2 rfl) ?_
        exact ro_ri hx hb hr hlk dX2_need_29 (by rw [hq, ndF_hit (by omega) (by unfold ndB; rw [Bool.and_eq_true, decide_eq_true_iff, decide_eq_true_iff]; omega)])
set_option maxHeartbeats 4000000 in
set_option maxRecDepth 100000 in
theorem c_X2_butterBits (l : Launch) (D : va_G) (cy : Nat → ClassId) (ev : kz_V) (a k f o y : Nat) (did ch : Bool) (hk : k < 5) (hf : f ≤ 9) (hy : y ≤ 100) : Met l yX2_butterBits (.code yX2_butterBits cX2_butterBits 7 (some .int) :: WB) { frames := 2, cells := 0, slots := 0, locals := 44 } (ro_Pc D cy ev [.ref a, .int (bI did), .int (bI ch), .int (nI y)] [zO a (pk k) [.int (nI f), .int (nI o)]]) (vp_Si (fun r => r = bbF (okB k f did ch y) 10)) 0 0 (fun _ => False) := by
  refine Met.ofW (cc := cX2_butterBits) (maxL := 7) (ret := (some .int)) (by decide) rfl ?_
  intro p e s m args below meth c s₁ B hml hv
  obtain ⟨rfl, hP, hK, hE⟩ := hv
  have hx := B.exec
  have hb := B.bytes
  have hr := B.returns
  have hlk := B.notSynchronized
  have hts : ∀ w ∈ WB, w.before _ s = true := fun w h => atoms_spec B.pre w (List.mem_cons_of_mem _ h)
  have hown : s.vm.findClass RX2 = some m.cls := findClass_of_methodNamed B.named
  have hl := lv_entry ([.ref a, .int (bI did), .int (bI ch), .int (nI y)]) (n := 7) (Nat.le_of_ble_eq_true rfl)
  rw [lg_entry_eq]
  generalize (lg_sl ([.ref a, .int (bI did), .int (bI ch), .int (nI y)]) ++ List.replicate (7 - (lg_sl ([.ref a, .int (bI did), .int (bI ch), .int (nI y)])).length) Slot.unset).toArray = ls at hl ⊢
  have hl : lv_has ls 7 [(0, .ref a), (1, .int (bI did)), (2, .int (bI ch)), (3, .int (nI y))] := hl
  refine lv_iconst (v := nI 0) hx hb dX2_butterBits_0 (by decide) ?_
  refine lv_istore (lv' := [(4, .int (nI 0)), (0, .ref a), (1, .int (bI did)), (2, .int (bI ch)), (3, .int (nI y))]) hx hb dX2_butterBits_1 hl (by decide) rfl (fun ls hl => ?_)
  refine lv_iconst (v := nI 0) hx hb dX2_butterBits_3 (by decide) ?_
  refine lv_istore (lv' := [(5, .int (nI 0)), (4, .int (nI 0)), (0, .ref a), (1, .int (bI did)), (2, .int (bI ch)), (3, .int (nI y))]) hx hb dX2_butterBits_4 hl (by decide) rfl (fun ls hl => ?_)
  refine kn_loopR (α := Unit) (10) (fun i _ ls => (i ≤ 10) ∧ lv_has ls 7 [(0, .ref a), (1, .int (bI did)), (2, .int (bI ch)), (3, .int (nI y)), (4, .int (bbF (okB k f did ch y) i)), (5, .int (nI i))]) (0) (()) ⟨(by decide), lv_sub hl [2, 3, 4, 5, 1, 0] rfl⟩ (fun i _ ls hI ih6 => ?_)
  obtain ⟨hi, hl⟩ := hI
  refine lv_iload hx hb dX2_butterBits_6 (lv_at hl 5 rfl) ?_
  refine lv_bipush (v := nI 9) hx hb dX2_butterBits_8 (by decide) ?_
  refine kt_icmp_gt (tgt := 57) hx hb dX2_butterBits_10 (by decide) (nI_toInt (by omega)) (nI_toInt (by decide)) (fun c10 => ?_) (fun c10 => ?_)
  · skip
    refine lv_iload hx hb dX2_butterBits_57 (lv_at hl 4 rfl) ?_
    exact ro_ri hx hb hr hlk dX2_butterBits_59 (by rw [show i = 10 by omega])
  · skip
    refine lv_aload_n hx hb dX2_butterBits_13 rfl (lv_at hl 0 rfl) ?_
    refine lv_iload_n hx hb dX2_butterBits_14 rfl (lv_at hl 1 rfl) ?_
    refine lv_iload_n hx hb dX2_butterBits_15 rfl (lv_at hl 3 rfl) ?_
    refine lv_iload hx hb dX2_butterBits_16 (lv_at hl 5 rfl) ?_
    refine pv_tenths_X2 (rest := []) hx hb (hml.trans hl.1.symm) hown hts hK hE hP 0 hk rfl hf (by omega) (by omega) ⟨Nat.le_of_ble_eq_true rfl, Nat.le_of_ble_eq_true rfl⟩ (Nat.le_of_ble_eq_true rfl) dX2_butterBits_18 ⟨Nat.le_of_ble_eq_true rfl, Nat.le_of_ble_eq_true rfl⟩ ?_
    have ht18 : tn (dn k f did) y i ≤ 10 := tn_le _ _ _
    refine lv_istore (lv' := [(6, .int (nI (tn (dn k f did) y i))), (0, .ref a), (1, .int (bI did)), (2, .int (bI ch)), (3, .int (nI y)), (4, .int (bbF (okB k f did ch y) i)), (5, .int (nI i))]) hx hb dX2_butterBits_21 hl (by decide) rfl (fun ls hl => ?_)
    refine lv_iload_n hx hb dX2_butterBits_23 rfl (lv_at hl 3 rfl) ?_
    refine kt_ifB_eq (tgt := 35) hx hb dX2_butterBits_24 (by decide) (fun c24 => ?_) (fun c24 => ?_)
    · skip
      refine lv_iload hx hb dX2_butterBits_35 (lv_at hl 0 rfl) ?_
      refine lv_bipush (v := nI 10) hx hb dX2_butterBits_37 (by decide) ?_
      refine kt_icmp_ge (tgt := 51) hx hb dX2_butterBits_39 (by decide) (nI_toInt (by omega)) (nI_toInt (by decide)) (fun c39 => ?_) (fun c39 => ?_)
      · skip
        refine kn_iinc (k := 6) (x := i) (d := 1) (lv' := [(5, .int (nI (i + 1))), (6, .int (nI (tn (dn k f did) y i))), (0, .ref a), (1, .int (bI did)), (2, .int (bI ch)), (3, .int (nI y)), (4, .int (bbF (okB k f did ch y) i))]) hx hb dX2_butterBits_51 hl rfl (by decide) rfl (fun ls hl => ?_)
        refine lv_goto (tgt := 6) hx hb dX2_butterBits_54 (by decide) ?_
        have hl : lv_has ls 7 [(5, .int (nI (i + 1))), (6, .int (nI (tn (dn k f did) y i))), (0, .ref a), (1, .int (bI did)), (2, .int (bI ch)), (3, .int (nI y)), (4, .int (bbF (okB k f did ch y) (i + 1)))] := by
          have e9 : bbF (okB k f did ch y) i = bbF (okB k f did ch y) (i + 1) := bbF_no (by simp only [okB, c24]; simp; omega)
          rw [← e9]
          exact hl
        exact ih6 (()) _ (by omega) ⟨(by omega), lv_sub hl [2, 3, 4, 5, 6, 0] rfl⟩
      · skip
        refine lv_iload hx hb dX2_butterBits_42 (lv_at hl 5 rfl) ?_
        refine lv_iconst (v := nI 1) hx hb dX2_butterBits_44 (by decide) ?_
        refine lv_iload hx hb dX2_butterBits_45 (lv_at hl 6 rfl) ?_
        refine lv_ishl hx hb dX2_butterBits_47 ?_
        refine lv_ior hx hb dX2_butterBits_48 ?_
        refine lv_istore (lv' := [(4, .int ((bbF (okB k f did ch y) i) ||| ((nI 1) <<< ((nI i) &&& 31)))), (6, .int (nI (tn (dn k f did) y i))), (0, .ref a), (1, .int (bI did)), (2, .int (bI ch)), (3, .int (nI y)), (5, .int (nI i))]) hx hb dX2_butterBits_49 hl (by decide) rfl (fun ls hl => ?_)
        refine kn_iinc (k := 6) (x := i) (d := 1) (lv' := [(5, .int (nI (i + 1))), (4, .int ((bbF (okB k f did ch y) i) ||| ((nI 1) <<< ((nI i) &&& 31)))), (6, .int (nI (tn (dn k f did) y i))), (0, .ref a), (1, .int (bI did)), (2, .int (bI ch)), (3, .int (nI y))]) hx hb dX2_butterBits_51 hl rfl (by decide) rfl (fun ls hl => ?_)
        refine lv_goto (tgt := 6) hx hb dX2_butterBits_54 (by decide) ?_
        have hl : lv_has ls 7 [(5, .int (nI (i + 1))), (4, .int (bbF (okB k f did ch y) (i + 1))), (6, .int (nI (tn (dn k f did) y i))), (0, .ref a), (1, .int (bI did)), (2, .int (bI ch)), (3, .int (nI y))] := by
          have e9 : (bbF (okB k f did ch y) i) ||| ((nI 1) <<< ((nI i) &&& 31)) = bbF (okB k f did ch y) (i + 1) := bbF_yes (by simp only [okB, c24]; simp; omega)
          rw [← e9]
          exact hl
        exact ih6 (()) _ (by omega) ⟨(by omega), lv_sub hl [3, 4, 5, 6, 1, 0] rfl⟩
    · skip
      refine lv_iload hx hb dX2_butterBits_27 (lv_at hl 0 rfl) ?_
      refine kt_if_le (tgt := 51) hx hb dX2_butterBits_29 (by decide) (nI_toInt (by omega)) (fun c29 => ?_) (fun c29 => ?_)
      · skip
        refine kn_iinc (k := 6) (x := i) (d := 1) (lv' := [(5, .int (nI (i + 1))), (6, .int (nI (tn (dn k f did) y i))), (0, .ref a), (1, .int (bI did)), (2, .int (bI ch)), (3, .int (nI y)), (4, .int (bbF (okB k f did ch y) i))]) hx hb dX2_butterBits_51 hl rfl (by decide) rfl (fun ls hl => ?_)
        refine lv_goto (tgt := 6) hx hb dX2_butterBits_54 (by decide) ?_
        have hl : lv_has ls 7 [(5, .int (nI (i + 1))), (6, .int (nI (tn (dn k f did) y i))), (0, .ref a), (1, .int (bI did)), (2, .int (bI ch)), (3, .int (nI y)), (4, .int (bbF (okB k f did ch y) (i + 1)))] := by
          have e9 : bbF (okB k f did ch y) i = bbF (okB k f did ch y) (i + 1) := bbF_no (by simp only [okB, c24]; simp; omega)
          rw [← e9]
          exact hl
        exact ih6 (()) _ (by omega) ⟨(by omega), lv_sub hl [2, 3, 4, 5, 6, 0] rfl⟩
      · skip
        refine lv_goto (tgt := 42) hx hb dX2_butterBits_32 (by decide) ?_
        refine lv_iload hx hb dX2_butterBits_42 (lv_at hl 5 rfl) ?_
        refine lv_iconst (v := nI 1) hx hb dX2_butterBits_44 (by decide) ?_
        refine lv_iload hx hb dX2_butterBits_45 (lv_at hl 6 rfl) ?_
        refine lv_ishl hx hb dX2_butterBits_47 ?_
        refine lv_ior hx hb dX2_butterBits_48 ?_
        refine lv_istore (lv' := [(4, .int ((bbF (okB k f did ch y) i) ||| ((nI 1) <<< ((nI i) &&& 31)))), (6, .int (nI (tn (dn k f did) y i))), (0, .ref a), (1, .int (bI did)), (2, .int (bI ch)), (3, .int (nI y)), (5, .int (nI i))]) hx hb dX2_butterBits_49 hl (by decide) rfl (fun ls hl => ?_)
        refine kn_iinc (k := 6) (x := i) (d := 1) (lv' := [(5, .int (nI (i + 1))), (4, .int ((bbF (okB k f did ch y) i) ||| ((nI 1) <<< ((nI i) &&& 31)))), (6, .int (nI (tn (dn k f did) y i))), (0, .ref a), (1, .int (bI did)), (2, .int (bI ch)), (3, .int (nI y))]) hx hb dX2_butterBits_51 hl rfl (by decide) rfl (fun ls hl => ?_)
        refine lv_goto (tgt := 6) hx hb dX2_butterBits_54 (by decide) ?_
        have hl : lv_has ls 7 [(5, .int (nI (i + 1))), (4, .int (bbF (okB k f did ch y) (i + 1))), (6, .int (nI (tn (dn k f did) y i))), (0, .ref a), (1, .int (bI did)), (2, .int (bI ch)), (3, .int (nI y))] := by
          have e9 : (bbF (okB k f did ch y) i) ||| ((nI 1) <<< ((nI i) &&& 31)) = bbF (okB k f did ch y) (i + 1) := bbF_yes (by simp only [okB, c24]; simp; omega)
          rw [← e9]
          exact hl
        exact ih6 (()) _ (by omega) ⟨(by omega), lv_sub hl [3, 4, 5, 6, 1, 0] rfl⟩
section PV3
variable {p : Program} {l : Launch} {e : Env} {R : Room} {s : State} {m : MethodId} {args : Array Value} {below : List Frame} {meth : Method} {c : Code} {H : Heap} {locs : List Loc} {cells slots : Nat} {Q : State → Prop}
variable {cc : ByteArray} {pc : Nat} {ls : Array Slot} {rest : List Value} {D : va_G} {cy : Nat → ClassId} {ev : kz_V} {ws : va_W}
set_option maxHeartbeats 4000000 in
theorem pv_need_X7 (hx : p.tables.exec = Jvm.exec) (hb : c.code = cc) (hml : c.maxLocals = ls.size) (hown : s.vm.findClass RX7 = some m.cls) (hts : ∀ w ∈ WB, w.before args s = true) (hK : va_K D vwCl (kz_ty cy) s) (hE : kz_E ev s H) (hP : va_P D vwCl ws H) (q0 : Nat) {a k f o : Nat} {y : Nat} (hk : k < 5) (he : ws[q0]? = some (zO a (pk k) [.int (nI f), .int (nI o)])) (hfe : f ≤ 9) (hy : y ≤ 100) (hR : 2 + 1 ≤ R.frames ∧ 8 + (3 + 11) + 44 ≤ R.locals) (hW : (rest.map fun v => v.category).sum ≤ 8) (hdg : decode cc pc = .ok (.invokevirtual 107, 3)) (hf : cells ≤ R.cells ∧ slots ≤ R.slots) (kk : W p l e R s m args below meth c H locs cells slots Q (F0 m (pc + 3) ls (.int (need k f y) :: rest))) : W p l e R s m args below meth c H locs cells slots Q (F0 m pc ls (.int (nI y) :: .ref a :: rest)) := by
  rcases k_cases hk with rfl | rfl | rfl | rfl | rfl
  · exact ro_Vi (As := [.int (nI y)]) (rest := rest) (v := need 0 f y) ⟨hx, hb, hml, hown, hts⟩ (c_X2_need l D cy ev a 0 f o y (by decide) hfe hy) (kz_cwV 1 hts wm_384 wm_380 wm_383 wm_386 wm_282 rfl rfl (by decide +kernel) hR) hK hE (kz_one hP q0 he) (kz_recv (ci := 2) 0 hK (kz_one hP q0 he) rfl rfl) rfl rfl rfl hW hdg hf kk
  · exact ro_Ui (As := [.int (nI y)]) (rest := rest) (v := need 1 f y) ⟨hx, hb, hml, hown, hts⟩ (c_X2_need l D cy ev a 1 f o y (by decide) hfe hy) (kz_cwU (owner := "DryLoaf$Person") (x := yX2_need) 1 hts wm_384 wm_380 wm_381 wm_382 wm_383 wm_282 rfl rfl rfl (by decide +kernel) hR) hK hE (kz_one hP q0 he) (kz_recv (ci := 0) 0 hK (kz_one hP q0 he) rfl rfl) rfl rfl rfl hW hdg hf kk
  · exact ro_Ui (As := [.int (nI y)]) (rest := rest) (v := need 2 f y) ⟨hx, hb, hml, hown, hts⟩ (c_X2_need l D cy ev a 2 f o y (by decide) hfe hy) (kz_cwU (owner := "DryLoaf$Person") (x := yX2_need) 1 hts wm_384 wm_380 wm_381 wm_389 wm_383 wm_282 rfl rfl rfl (by decide +kernel) hR) hK hE (kz_one hP q0 he) (kz_recv (ci := 6) 0 hK (kz_one hP q0 he) rfl rfl) rfl rfl rfl hW hdg hf kk
  · exact ro_Ui (As := [.int (nI y)]) (rest := rest) (v := need 3 f y) ⟨hx, hb, hml, hown, hts⟩ (c_X2_need l D cy ev a 3 f o y (by decide) hfe hy) (kz_cwU (owner := "DryLoaf$Person") (x := yX2_need) 1 hts wm_384 wm_380 wm_381 wm_387 wm_383 wm_282 rfl rfl rfl (by decide +kernel) hR) hK hE (kz_one hP q0 he) (kz_recv (ci := 3) 0 hK (kz_one hP q0 he) rfl rfl) rfl rfl rfl hW hdg hf kk
  · exact ro_Ui (As := [.int (nI y)]) (rest := rest) (v := need 4 f y) ⟨hx, hb, hml, hown, hts⟩ (c_X2_need l D cy ev a 4 f o y (by decide) hfe hy) (kz_cwU (owner := "DryLoaf$Person") (x := yX2_need) 1 hts wm_384 wm_380 wm_381 wm_388 wm_383 wm_282 rfl rfl rfl (by decide +kernel) hR) hK hE (kz_one hP q0 he) (kz_recv (ci := 5) 0 hK (kz_one hP q0 he) rfl rfl) rfl rfl rfl hW hdg hf kk
set_option maxHeartbeats 4000000 in
theorem pv_bits_X7 (hx : p.tables.exec = Jvm.exec) (hb : c.code = cc) (hml : c.maxLocals = ls.size) (hown : s.vm.findClass RX7 = some m.cls) (hts : ∀ w ∈ WB, w.before args s = true) (hK : va_K D vwCl (kz_ty cy) s) (hE : kz_E ev s H) (hP : va_P D vwCl ws H) (q0 : Nat) {a k f o : Nat} {y : Nat} {did ch : Bool} (hk : k < 5) (he : ws[q0]? = some (zO a (pk k) [.int (nI f), .int (nI o)])) (hfe : f ≤ 9) (hy : y ≤ 100) (hR : 2 + 1 ≤ R.frames ∧ 8 + (7 + 11) + 44 ≤ R.locals) (hW : (rest.map fun v => v.category).sum ≤ 8) (hdg : decode cc pc = .ok (.invokevirtual 174, 3)) (hf : cells ≤ R.cells ∧ slots ≤ R.slots) (kk : W p l e R s m args below meth c H locs cells slots Q (F0 m (pc + 3) ls (.int (bbF (okB k f did ch y) 10) :: rest))) : W p l e R s m args below meth c H locs cells slots Q (F0 m pc ls (.int (nI y) :: .int (bI ch) :: .int (bI did) :: .ref a :: rest)) := by
  rcases k_cases hk with rfl | rfl | rfl | rfl | rfl
  · exact ro_Vi (As := [.int (bI did), .int (bI ch), .int (nI y)]) (rest := rest) (v := bbF (okB 0 f did ch y) 10) ⟨hx, hb, hml, hown, hts⟩ (c_X2_butterBits l D cy ev a 0 f o y did ch (by decide) hfe hy) (kz_cwV 3 hts wm_608 wm_604 wm_607 wm_609 wm_282 rfl rfl (by decide +kernel) hR) hK hE (kz_one hP q0 he) (kz_recv (ci := 2) 0 hK (kz_one hP q0 he) rfl rfl) rfl rfl rfl hW hdg hf kk
  · exact ro_Ui (As := [.int (bI did), .int (bI ch), .int (nI y)]) (rest := rest) (v := bbF (okB 1 f did ch y) 10) ⟨hx, hb, hml, hown, hts⟩ (c_X2_butterBits l D cy ev a 1 f o y did ch (by decide) hfe hy) (kz_cwU (owner := "DryLoaf$Person") (x := yX2_butterBits) 3 hts wm_608 wm_604 wm_605 wm_606 wm_607 wm_282 rfl rfl rfl (by decide +kernel) hR) hK hE (kz_one hP q0 he) (kz_recv (ci := 0) 0 hK (kz_one hP q0 he) rfl rfl) rfl rfl rfl hW hdg hf kk
  · exact ro_Ui (As := [.int (bI did), .int (bI ch), .int (nI y)]) (rest := rest) (v := bbF (okB 2 f did ch y) 10) ⟨hx, hb, hml, hown, hts⟩ (c_X2_butterBits l D cy ev a 2 f o y did ch (by decide) hfe hy) (kz_cwU (owner := "DryLoaf$Person") (x := yX2_butterBits) 3 hts wm_608 wm_604 wm_605 wm_612 wm_607 wm_282 rfl rfl rfl (by decide +kernel) hR) hK hE (kz_one hP q0 he) (kz_recv (ci := 6) 0 hK (kz_one hP q0 he) rfl rfl) rfl rfl rfl hW hdg hf kk
  · exact ro_Ui (As := [.int (bI did), .int (bI ch), .int (nI y)]) (rest := rest) (v := bbF (okB 3 f did ch y) 10) ⟨hx, hb, hml, hown, hts⟩ (c_X2_butterBits l D cy ev a 3 f o y did ch (by decide) hfe hy) (kz_cwU (owner := "DryLoaf$Person") (x := yX2_butterBits) 3 hts wm_608 wm_604 wm_605 wm_610 wm_607 wm_282 rfl rfl rfl (by decide +kernel) hR) hK hE (kz_one hP q0 he) (kz_recv (ci := 3) 0 hK (kz_one hP q0 he) rfl rfl) rfl rfl rfl hW hdg hf kk
  · exact ro_Ui (As := [.int (bI did), .int (bI ch), .int (nI y)]) (rest := rest) (v := bbF (okB 4 f did ch y) 10) ⟨hx, hb, hml, hown, hts⟩ (c_X2_butterBits l D cy ev a 4 f o y did ch (by decide) hfe hy) (kz_cwU (owner := "DryLoaf$Person") (x := yX2_butterBits) 3 hts wm_608 wm_604 wm_605 wm_611 wm_607 wm_282 rfl rfl rfl (by decide +kernel) hR) hK hE (kz_one hP q0 he) (kz_recv (ci := 5) 0 hK (kz_one hP q0 he) rfl rfl) rfl rfl rfl hW hdg hf kk
set_option maxHeartbeats 4000000 in
theorem pv_kind_X7 (hx : p.tables.exec = Jvm.exec) (hb : c.code = cc) (hml : c.maxLocals = ls.size) (hown : s.vm.findClass RX7 = some m.cls) (hts : ∀ w ∈ WB, w.before args s = true) (hK : va_K D vwCl (kz_ty cy) s) (hE : kz_E ev s H) (hP : va_P D vwCl ws H) (q0 : Nat) {a k f o : Nat}  (hk : k < 5) (he : ws[q0]? = some (zO a (pk k) [.int (nI f), .int (nI o)]))  (hR : 0 + 1 ≤ R.frames ∧ 8 + (1 + 11) + 0 ≤ R.locals) (hW : (rest.map fun v => v.category).sum ≤ 8) (hdg : decode cc pc = .ok (.invokevirtual 84, 3)) (hf : cells ≤ R.cells ∧ slots ≤ R.slots) (kk : W p l e R s m args below meth c H locs cells slots Q (F0 m (pc + 3) ls (.int (nI k) :: rest))) : W p l e R s m args below meth c H locs cells slots Q (F0 m pc ls (.ref a :: rest)) := by
  rcases k_cases hk with rfl | rfl | rfl | rfl | rfl
  · exact ro_Vi (As := []) (rest := rest) (v := nI 0) ⟨hx, hb, hml, hown, hts⟩ (c_X2_kind l D cy ev a f o) (kz_cwV 0 hts wm_333 wm_327 wm_329 wm_334 wm_282 rfl rfl (by decide +kernel) hR) hK hE (kz_one hP q0 he) (kz_recv (ci := 2) 0 hK (kz_one hP q0 he) rfl rfl) rfl rfl rfl hW hdg hf kk
  · exact ro_Ui (As := []) (rest := rest) (v := nI 1) ⟨hx, hb, hml, hown, hts⟩ (c_X0_kind l D cy ev a f o) (kz_cwO (owner := "DryLoaf$Person") (x := yX2_kind) 0 hts wm_332 wm_333 wm_327 wm_328 wm_329 wm_330 wm_331 wm_270 rfl rfl (by decide +kernel) hR) hK hE (kz_one hP q0 he) (kz_recv (ci := 0) 0 hK (kz_one hP q0 he) rfl rfl) rfl rfl rfl hW hdg hf kk
  · exact ro_Ui (As := []) (rest := rest) (v := nI 2) ⟨hx, hb, hml, hown, hts⟩ (c_X6_kind l D cy ev a f o) (kz_cwO (owner := "DryLoaf$Person") (x := yX2_kind) 0 hts wm_343 wm_333 wm_327 wm_328 wm_329 wm_341 wm_342 wm_273 rfl rfl (by decide +kernel) hR) hK hE (kz_one hP q0 he) (kz_recv (ci := 6) 0 hK (kz_one hP q0 he) rfl rfl) rfl rfl rfl hW hdg hf kk
  · exact ro_Ui (As := []) (rest := rest) (v := nI 3) ⟨hx, hb, hml, hown, hts⟩ (c_X3_kind l D cy ev a f o) (kz_cwO (owner := "DryLoaf$Person") (x := yX2_kind) 0 hts wm_337 wm_333 wm_327 wm_328 wm_329 wm_335 wm_336 wm_276 rfl rfl (by decide +kernel) hR) hK hE (kz_one hP q0 he) (kz_recv (ci := 3) 0 hK (kz_one hP q0 he) rfl rfl) rfl rfl rfl hW hdg hf kk
  · exact ro_Ui (As := []) (rest := rest) (v := nI 4) ⟨hx, hb, hml, hown, hts⟩ (c_X5_kind l D cy ev a f o) (kz_cwO (owner := "DryLoaf$Person") (x := yX2_kind) 0 hts wm_340 wm_333 wm_327 wm_328 wm_329 wm_338 wm_339 wm_279 rfl rfl (by decide +kernel) hR) hK hE (kz_one hP q0 he) (kz_recv (ci := 5) 0 hK (kz_one hP q0 he) rfl rfl) rfl rfl rfl hW hdg hf kk
theorem pv_fear_X7 (hx : p.tables.exec = Jvm.exec) (hb : c.code = cc) (hown : s.vm.findClass RX7 = some m.cls) (hts : ∀ w ∈ WB, w.before args s = true) (hK : va_K D vwCl (kz_ty cy) s) (hP : va_P D vwCl ws H) (q0 : Nat) {a k f o : Nat} (hk : k < 5) (he : ws[q0]? = some (zO a (pk k) [.int (nI f), .int (nI o)])) (hdg : decode cc pc = .ok (.getfield 87, 3)) (kk : W p l e R s m args below meth c H locs cells slots Q (F0 m (pc + 3) ls (.int (nI f) :: rest))) : W p l e R s m args below meth c H locs cells slots Q (F0 m pc ls (.ref a :: rest)) := by
  rcases k_cases hk with rfl | rfl | rfl | rfl | rfl
  · exact va_get (ci := 2) (C := RX2) (T := TX2) (N := 2) hx hb hts inX2 hown hK (kz_one hP q0 he) 0 rfl rfl 0 (by decide) (hts _ wm_318) (fun _ h9 => h9) rfl hdg kk
  · exact va_get (ci := 0) (C := RX0) (T := TX0) (N := 2) hx hb hts inX0 hown hK (kz_one hP q0 he) 0 rfl rfl 0 (by decide) (hts _ wm_318) (fun _ h9 => h9) rfl hdg kk
  · exact va_get (ci := 6) (C := RX6) (T := TX6) (N := 2) hx hb hts inX6 hown hK (kz_one hP q0 he) 0 rfl rfl 0 (by decide) (hts _ wm_318) (fun _ h9 => h9) rfl hdg kk
  · exact va_get (ci := 3) (C := RX3) (T := TX3) (N := 2) hx hb hts inX3 hown hK (kz_one hP q0 he) 0 rfl rfl 0 (by decide) (hts _ wm_318) (fun _ h9 => h9) rfl hdg kk
  · exact va_get (ci := 5) (C := RX5) (T := TX5) (N := 2) hx hb hts inX5 hown hK (kz_one hP q0 he) 0 rfl rfl 0 (by decide) (hts _ wm_318) (fun _ h9 => h9) rfl hdg kk
theorem pv_odds_X7 (hx : p.tables.exec = Jvm.exec) (hb : c.code = cc) (hown : s.vm.findClass RX7 = some m.cls) (hts : ∀ w ∈ WB, w.before args s = true) (hK : va_K D vwCl (kz_ty cy) s) (hP : va_P D vwCl ws H) (q0 : Nat) {a k f o : Nat} (hk : k < 5) (he : ws[q0]? = some (zO a (pk k) [.int (nI f), .int (nI o)])) (hdg : decode cc pc = .ok (.getfield 75, 3)) (kk : W p l e R s m args below meth c H locs cells slots Q (F0 m (pc + 3) ls (.int (nI o) :: rest))) : W p l e R s m args below meth c H locs cells slots Q (F0 m pc ls (.ref a :: rest)) := by
  rcases k_cases hk with rfl | rfl | rfl | rfl | rfl
  · exact va_get (ci := 2) (C := RX2) (T := TX2) (N := 2) hx hb hts inX2 hown hK (kz_one hP q0 he) 0 rfl rfl 1 (by decide) (hts _ wm_241) (fun _ h9 => h9) rfl hdg kk
  · exact va_get (ci := 0) (C := RX0) (T := TX0) (N := 2) hx hb hts inX0 hown hK (kz_one hP q0 he) 0 rfl rfl 1 (by decide) (hts _ wm_241) (fun _ h9 => h9) rfl hdg kk
  · exact va_get (ci := 6) (C := RX6) (T := TX6) (N := 2) hx hb hts inX6 hown hK (kz_one hP q0 he) 0 rfl rfl 1 (by decide) (hts _ wm_241) (fun _ h9 => h9) rfl hdg kk
  · exact va_get (ci := 3) (C := RX3) (T := TX3) (N := 2) hx hb hts inX3 hown hK (kz_one hP q0 he) 0 rfl rfl 1 (by decide) (hts _ wm_241) (fun _ h9 => h9) rfl hdg kk
  · exact va_get (ci := 5) (C := RX5) (T := TX5) (N := 2) hx hb hts inX5 hown hK (kz_one hP q0 he) 0 rfl rfl 1 (by decide) (hts _ wm_241) (fun _ h9 => h9) rfl hdg kk
end PV3
