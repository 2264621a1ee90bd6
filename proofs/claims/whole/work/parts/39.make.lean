set_option maxHeartbeats 4000000 in
set_option maxRecDepth 100000 in
theorem c_X2_init (l : Launch) (D : va_G) (cy : Nat → ClassId) (ev : kz_V) (sz : Nat) (a k f o : Nat) (f0 o0 : Int32) (hk : k < 5) : Met l yX2_init (.code yX2_init cX2_init 3 none :: WB) { frames := 1, cells := 0, slots := 0, locals := 12 } (wr_Pc D cy ev [.ref a, .int (nI f), .int (nI o)] [zO a (pk k) [.int f0, .int o0]] [] sz) (va_Qv (S := Unit) (fun _ => True) (wr_B D [zO a (pk k) [.int f0, .int o0]] sz (fun u => [zO a (pk k) [.int (nI f), .int (nI o)]])) (va_A [zO a (pk k) [.int f0, .int o0]] sz)) 0 0 (va_A [zO a (pk k) [.int f0, .int o0]] sz) := by
  refine Met.ofW (cc := cX2_init) (maxL := 3) (ret := none) (by decide) rfl ?_
  intro p e s m args below meth c s₁ B hml hv
  obtain ⟨rfl, rfl, hP, hR, hK, hD0, hE0, hsz⟩ := hv
  have hx := B.exec
  have hb := B.bytes
  have hr := B.returns
  have hlk := B.notSynchronized
  have hts : ∀ w ∈ WB, w.before _ s = true := fun w h => atoms_spec B.pre w (List.mem_cons_of_mem _ h)
  have hown : s.vm.findClass RX2 = some m.cls := findClass_of_methodNamed B.named
  have hin : meth.name = "<init>" := (name_of_methodNamed B.named B.method).1
  have hN := kz_out hD0 hR
  have hR0 := hR
  have hAE := kz_up hD0 hsz
  have hE := hE0
  have hD := hD0.left.self (sz := s.heap.size)
  have hA : ∀ q9 : Nat, s.heap.size ≤ q9 → va_A [zO a (pk k) [.int f0, .int o0]] s.heap.size q9 := fun _ h => Or.inr h
  have hS : va_S (va_A [zO a (pk k) [.int f0, .int o0]] s.heap.size) s.heap s.heap [] := va_S.rf
  have hl := lv_entry ([.ref a, .int (nI f), .int (nI o)]) (n := 3) (Nat.le_of_ble_eq_true rfl)
  rw [lg_entry_eq]
  generalize (lg_sl ([.ref a, .int (nI f), .int (nI o)]) ++ List.replicate (3 - (lg_sl ([.ref a, .int (nI f), .int (nI o)])).length) Slot.unset).toArray = ls at hl ⊢
  have hl : lv_has ls 3 [(0, .ref a), (1, .int (nI f)), (2, .int (nI o))] := hl
  rcases k_cases hk with rfl | rfl | rfl | rfl | rfl
  · skip
    have hP : va_P D vwCl [zO a 2 [.int f0, .int o0]] s.heap := hP
    have hD : va_D (va_A [zO a 2 [.int f0, .int o0]] s.heap.size) [zO a 2 [.int f0, .int o0]] := hD
    have hS : va_S (va_A [zO a 2 [.int f0, .int o0]] s.heap.size) s.heap s.heap [] := hS
    refine lv_aload_n hx hb dX2_init_0 rfl (lv_at hl 0 rfl) ?_
    refine W.objInit hx hb hown (hts _ wm_289) (hts _ wm_10) (hts _ wm_11) rfl (by rw [hml]; exact hl.1) rfl dX2_init_1 (Nat.le_of_ble_eq_true rfl) (Nat.le_of_ble_eq_true rfl) ?_
    refine W.eq (g2 := F0 m 4 ls []) rfl ?_
    refine lv_aload_n hx hb dX2_init_4 rfl (lv_at hl 0 rfl) ?_
    refine lv_iload_n hx hb dX2_init_5 rfl (lv_at hl 1 rfl) ?_
    refine va_putF (ci := 2) (C := RX2) (T := TX2) (N := 2) hx hb hts inX2 tyX2 tyX2_ok nmX2 hown hK hP hD hS 0 rfl rfl 0 (by decide) (hts _ wm_290) (fun _ h9 => h9) rfl hin rfl (tyX2_ok 0 (by decide)) rfl rfl (Nat.le_of_ble_eq_true rfl) dX2_init_6 (fun H locs hP hD hS => ?_)
    have hP : va_P D vwCl [zO a 2 [.int (nI f), .int o0]] H := hP
    have hD : va_D (va_A [zO a 2 [.int f0, .int o0]] s.heap.size) [zO a 2 [.int (nI f), .int o0]] := hD
    have hR := kz_keep hR0 hN hS
    have hE := hE0.kept hAE hS
    refine lv_aload_n hx hb dX2_init_9 rfl (lv_at hl 0 rfl) ?_
    refine lv_iload_n hx hb dX2_init_10 rfl (lv_at hl 2 rfl) ?_
    refine va_putF (ci := 2) (C := RX2) (T := TX2) (N := 2) hx hb hts inX2 tyX2 tyX2_ok nmX2 hown hK hP hD hS 0 rfl rfl 1 (by decide) (hts _ wm_291) (fun _ h9 => h9) rfl hin rfl (tyX2_ok 1 (by decide)) rfl rfl (Nat.le_of_ble_eq_true rfl) dX2_init_11 (fun H locs hP hD hS => ?_)
    have hP : va_P D vwCl [zO a 2 [.int (nI f), .int (nI o)]] H := hP
    have hD : va_D (va_A [zO a 2 [.int f0, .int o0]] s.heap.size) [zO a 2 [.int (nI f), .int (nI o)]] := hD
    have hR := kz_keep hR0 hN hS
    have hE := hE0.kept hAE hS
    exact wr_rv (()) hx hb hr hlk hS dX2_init_14 (trivial) (hP) (hD)
  · skip
    have hP : va_P D vwCl [zO a 0 [.int f0, .int o0]] s.heap := hP
    have hD : va_D (va_A [zO a 0 [.int f0, .int o0]] s.heap.size) [zO a 0 [.int f0, .int o0]] := hD
    have hS : va_S (va_A [zO a 0 [.int f0, .int o0]] s.heap.size) s.heap s.heap [] := hS
    refine lv_aload_n hx hb dX2_init_0 rfl (lv_at hl 0 rfl) ?_
    refine W.objInit hx hb hown (hts _ wm_289) (hts _ wm_10) (hts _ wm_11) rfl (by rw [hml]; exact hl.1) rfl dX2_init_1 (Nat.le_of_ble_eq_true rfl) (Nat.le_of_ble_eq_true rfl) ?_
    refine W.eq (g2 := F0 m 4 ls []) rfl ?_
    refine lv_aload_n hx hb dX2_init_4 rfl (lv_at hl 0 rfl) ?_
    refine lv_iload_n hx hb dX2_init_5 rfl (lv_at hl 1 rfl) ?_
    refine va_putF (ci := 0) (C := RX0) (T := TX0) (N := 2) hx hb hts inX0 tyX0 tyX0_ok nmX0 hown hK hP hD hS 0 rfl rfl 0 (by decide) (hts _ wm_290) (fun _ h9 => h9) rfl hin rfl (tyX0_ok 0 (by decide)) rfl rfl (Nat.le_of_ble_eq_true rfl) dX2_init_6 (fun H locs hP hD hS => ?_)
    have hP : va_P D vwCl [zO a 0 [.int (nI f), .int o0]] H := hP
    have hD : va_D (va_A [zO a 0 [.int f0, .int o0]] s.heap.size) [zO a 0 [.int (nI f), .int o0]] := hD
    have hR := kz_keep hR0 hN hS
    have hE := hE0.kept hAE hS
    refine lv_aload_n hx hb dX2_init_9 rfl (lv_at hl 0 rfl) ?_
    refine lv_iload_n hx hb dX2_init_10 rfl (lv_at hl 2 rfl) ?_
    refine va_putF (ci := 0) (C := RX0) (T := TX0) (N := 2) hx hb hts inX0 tyX0 tyX0_ok nmX0 hown hK hP hD hS 0 rfl rfl 1 (by decide) (hts _ wm_291) (fun _ h9 => h9) rfl hin rfl (tyX0_ok 1 (by decide)) rfl rfl (Nat.le_of_ble_eq_true rfl) dX2_init_11 (fun H locs hP hD hS => ?_)
    have hP : va_P D vwCl [zO a 0 [.int (nI f), .int (nI o)]] H := hP
    have hD : va_D (va_A [zO a 0 [.int f0, .int o0]] s.heap.size) [zO a 0 [.int (nI f), .int (nI o)]] := hD
    have hR := kz_keep hR0 hN hS
    have hE := hE0.kept hAE hS
    exact wr_rv (()) hx hb hr hlk hS dX2_init_14 (trivial) (hP) (hD)
  · skip
    have hP : va_P D vwCl [zO a 6 [.int f0, .int o0]] s.heap := hP
    have hD : va_D (va_A [zO a 6 [.int f0, .int o0]] s.heap.size) [zO a 6 [.int f0, .int o0]] := hD
    have hS : va_S (va_A [zO a 6 [.int f0, .int o0]] s.heap.size) s.heap s.heap [] := hS
    refine lv_aload_n hx hb dX2_init_0 rfl (lv_at hl 0 rfl) ?_
    refine W.objInit hx hb hown (hts _ wm_289) (hts _ wm_10) (hts _ wm_11) rfl (by rw [hml]; exact hl.1) rfl dX2_init_1 (Nat.le_of_ble_eq_true rfl) (Nat.le_of_ble_eq_true rfl) ?_
    refine W.eq (g2 := F0 m 4 ls []) rfl ?_
    refine lv_aload_n hx hb dX2_init_4 rfl (lv_at hl 0 rfl) ?_
    refine lv_iload_n hx hb dX2_init_5 rfl (lv_at hl 1 rfl) ?_
    refine va_putF (ci := 6) (C := RX6) (T := TX6) (N := 2) hx hb hts inX6 tyX6 tyX6_ok nmX6 hown hK hP hD hS 0 rfl rfl 0 (by decide) (hts _ wm_290) (fun _ h9 => h9) rfl hin rfl (tyX6_ok 0 (by decide)) rfl rfl (Nat.le_of_ble_eq_true rfl) dX2_init_6 (fun H locs hP hD hS => ?_)
    have hP : va_P D vwCl [zO a 6 [.int (nI f), .int o0]] H := hP
    have hD : va_D (va_A [zO a 6 [.int f0, .int o0]] s.heap.size) [zO a 6 [.int (nI f), .int o0]] := hD
    have hR := kz_keep hR0 hN hS
    have hE := hE0.kept hAE hS
    refine lv_aload_n hx hb dX2_init_9 rfl (lv_at hl 0 rfl) ?_
    refine lv_iload_n hx hb dX2_init_10 rfl (lv_at hl 2 rfl) ?_
    refine va_putF (ci := 6) (C := RX6) (T := TX6) (N := 2) hx hb hts inX6 tyX6 tyX6_ok nmX6 hown hK hP hD hS 0 rfl rfl 1 (by decide) (hts _ wm_291) (fun _ h9 => h9) rfl hin rfl (tyX6_ok 1 (by decide)) rfl rfl (Nat.le_of_ble_eq_true rfl) dX2_init_11 (fun H locs hP hD hS => ?_)
    have hP : va_P D vwCl [zO a 6 [.int (nI f), .int (nI o)]] H := hP
    have hD : va_D (va_A [zO a 6 [.int f0, .int o0]] s.heap.size) [zO a 6 [.int (nI f), .int (nI o)]] := hD
    have hR := kz_keep hR0 hN hS
    have hE := hE0.kept hAE hS
    exact wr_rv (()) hx hb hr hlk hS dX2_init_14 (trivial) (hP) (hD)
  · skip
    have hP : va_P D vwCl [zO a 3 [.int f0, .int o0]] s.heap := hP
    have hD : va_D (va_A [zO a 3 [.int f0, .int o0]] s.heap.size) [zO a 3 [.int f0, .int o0]] := hD
    have hS : va_S (va_A [zO a 3 [.int f0, .int o0]] s.heap.size) s.heap s.heap [] := hS
    refine lv_aload_n hx hb dX2_init_0 rfl (lv_at hl 0 rfl) ?_
    refine W.objInit hx hb hown (hts _ wm_289) (hts _ wm_10) (hts _ wm_11) rfl (by rw [hml]; exact hl.1) rfl dX2_init_1 (Nat.le_of_ble_eq_true rfl) (Nat.le_of_ble_eq_true rfl) ?_
    refine W.eq (g2 := F0 m 4 ls []) rfl ?_
    refine lv_aload_n hx hb dX2_init_4 rfl (lv_at hl 0 rfl) ?_
    refine lv_iload_n hx hb dX2_init_5 rfl (lv_at hl 1 rfl) ?_
    refine va_putF (ci := 3) (C := RX3) (T := TX3) (N := 2) hx hb hts inX3 tyX3 tyX3_ok nmX3 hown hK hP hD hS 0 rfl rfl 0 (by decide) (hts _ wm_290) (fun _ h9 => h9) rfl hin rfl (tyX3_ok 0 (by decide)) rfl rfl (Nat.le_of_ble_eq_true rfl) dX2_init_6 (fun H locs hP hD hS => ?_)
    have hP : va_P D vwCl [zO a 3 [.int (nI f), .int o0]] H := hP
    have hD : va_D (va_A [zO a 3 [.int f0, .int o0]] s.heap.size) [zO a 3 [.int (nI f), .int o0]] := hD
    have hR := kz_keep hR0 hN hS
    have hE := hE0.kept hAE hS
    refine lv_aload_n hx hb dX2_init_9 rfl (lv_at hl 0 rfl) ?_
    refine lv_iload_n hx hb dX2_init_10 rfl (lv_at hl 2 rfl) ?_
    refine va_putF (ci := 3) (C := RX3) (T := TX3) (N := 2) hx hb hts inX3 tyX3 tyX3_ok nmX3 hown hK hP hD hS 0 rfl rfl 1 (by decide) (hts _ wm_291) (fun _ h9 => h9) rfl hin rfl (tyX3_ok 1 (by decide)) rfl rfl (Nat.le_of_ble_eq_true rfl) dX2_init_11 (fun H locs hP hD hS => ?_)
    have hP : va_P D vwCl [zO a 3 [.int (nI f), .int (nI o)]] H := hP
    have hD : va_D (va_A [zO a 3 [.int f0, .int o0]] s.heap.size) [zO a 3 [.int (nI f), .int (nI o)]] := hD
    have hR := kz_keep hR0 hN hS
    have hE := hE0.kept hAE hS
    exact wr_rv (()) hx hb hr hlk hS dX2_init_14 (trivial) (hP) (hD)
  · skip
    have hP : va_P D vwCl [zO a 5 [.int f0, .int o0]] s.heap := hP
    have hD : va_D (va_A [zO a 5 [.int f0, .int o0]] s.heap.size) [zO a 5 [.int f0, .int o0]] := hD
    have hS : va_S (va_A [zO a 5 [.int f0, .int o0]] s.heap.size) s.heap s.heap [] := hS
    refine lv_aload_n hx hb dX2_init_0 rfl (lv_at hl 0 rfl) ?_
    refine W.objInit hx hb hown (hts _ wm_289) (hts _ wm_10) (hts _ wm_11) rfl (by rw [hml]; exact hl.1) rfl dX2_init_1 (Nat.le_of_ble_eq_true rfl) (Nat.le_of_ble_eq_true rfl) ?_
    refine W.eq (g2 := F0 m 4 ls []) rfl ?_
    refine lv_aload_n hx hb dX2_init_4 rfl (lv_at hl 0 rfl) ?_
    refine lv_iload_n hx hb dX2_init_5 rfl (lv_at hl 1 rfl) ?_
    refine va_putF (ci := 5) (C := RX5) (T := TX5) (N := 2) hx hb hts inX5 tyX5 tyX5_ok nmX5 hown hK hP hD hS 0 rfl rfl 0 (by decide) (hts _ wm_290) (fun _ h9 => h9) rfl hin rfl (tyX5_ok 0 (by decide)) rfl rfl (Nat.le_of_ble_eq_true rfl) dX2_init_6 (fun H locs hP hD hS => ?_)
    have hP : va_P D vwCl [zO a 5 [.int (nI f), .int o0]] H := hP
    have hD : va_D (va_A [zO a 5 [.int f0, .int o0]] s.heap.size) [zO a 5 [.int (nI f), .int o0]] := hD
    have hR := kz_keep hR0 hN hS
    have hE := hE0.kept hAE hS
    refine lv_aload_n hx hb dX2_init_9 rfl (lv_at hl 0 rfl) ?_
    refine lv_iload_n hx hb dX2_init_10 rfl (lv_at hl 2 rfl) ?_
    refine va_putF (ci := 5) (C := RX5) (T := TX5) (N := 2) hx hb hts inX5 tyX5 tyX5_ok nmX5 hown hK hP hD hS 0 rfl rfl 1 (by decide) (hts _ wm_291) (fun _ h9 => h9) rfl hin rfl (tyX5_ok 1 (by decide)) rfl rfl (Nat.le_of_ble_eq_true rfl) dX2_init_11 (fun H locs hP hD hS => ?_)
    have hP : va_P D vwCl [zO a 5 [.int (nI f), .int (nI o)]] H := hP
    have hD : va_D (va_A [zO a 5 [.int f0, .int o0]] s.heap.size) [zO a 5 [.int (nI f), .int (nI o)]] := hD
    have hR := kz_keep hR0 hN hS
    have hE := hE0.kept hAE hS
    exact wr_rv (()) hx hb hr hlk hS dX2_init_14 (trivial) (hP) (hD)
set_option maxHeartbeats 4000000 in
set_option maxRecDepth 100000 in
theorem c_X0_init_1 (l : Launch) (D : va_G) (cy : Nat → ClassId) (ev : kz_V) (sz : Nat) (a f o : Nat) (f0 o0 : Int32) : Met l yX0_init (.code yX0_init cX0_init 3 none :: WB) { frames := 2, cells := 0, slots := 0, locals := 34 } (wr_Pc D cy ev [.ref a, .int (nI f), .int (nI o)] [zO a 0 [.int f0, .int o0]] [] sz) (va_Qv (S := Unit) (fun _ => True) (wr_B D [zO a 0 [.int f0, .int o0]] sz (fun u => [zO a 0 [.int (nI f), .int (nI o)]])) (va_A [zO a 0 [.int f0, .int o0]] sz)) 0 0 (va_A [zO a 0 [.int f0, .int o0]] sz) := by
  refine Met.ofW (cc := cX0_init) (maxL := 3) (ret := none) (by decide) rfl ?_
  intro p e s m args below meth c s₁ B hml hv
  obtain ⟨rfl, rfl, hP, hR, hK, hD0, hE0, hsz⟩ := hv
  have hx := B.exec
  have hb := B.bytes
  have hr := B.returns
  have hlk := B.notSynchronized
  have hts : ∀ w ∈ WB, w.before _ s = true := fun w h => atoms_spec B.pre w (List.mem_cons_of_mem _ h)
  have hown : s.vm.findClass RX0 = some m.cls := findClass_of_methodNamed B.named
  have hin : meth.name = "<init>" := (name_of_methodNamed B.named B.method).1
  have hN := kz_out hD0 hR
  have hR0 := hR
  have hAE := kz_up hD0 hsz
  have hE := hE0
  have hD := hD0.left.self (sz := s.heap.size)
  have hA : ∀ q9 : Nat, s.heap.size ≤ q9 → va_A [zO a 0 [.int f0, .int o0]] s.heap.size q9 := fun _ h => Or.inr h
  have hS : va_S (va_A [zO a 0 [.int f0, .int o0]] s.heap.size) s.heap s.heap [] := va_S.rf
  have hl := lv_entry ([.ref a, .int (nI f), .int (nI o)]) (n := 3) (Nat.le_of_ble_eq_true rfl)
  rw [lg_entry_eq]
  generalize (lg_sl ([.ref a, .int (nI f), .int (nI o)]) ++ List.replicate (3 - (lg_sl ([.ref a, .int (nI f), .int (nI o)])).length) Slot.unset).toArray = ls at hl ⊢
  have hl : lv_has ls 3 [(0, .ref a), (1, .int (nI f)), (2, .int (nI o))] := hl
  refine lv_aload_n hx hb dX0_init_0 rfl (lv_at hl 0 rfl) ?_
  refine lv_iload_n hx hb dX0_init_1 rfl (lv_at hl 1 rfl) ?_
  refine lv_iload_n hx hb dX0_init_2 rfl (lv_at hl 2 rfl) ?_
  have hPc : va_P D vwCl [zO a 0 [.int f0, .int o0]] s.heap := hP
  have hDs : va_D (va_A [zO a 0 [.int f0, .int o0]] s.heap.size) [zO a 0 [.int f0, .int o0]] := hD
  have hFc := va_free (wc := [zO a 0 [.int f0, .int o0]]) hD hS hA [0] rfl
  refine wr_Iv (ret := none) (As := [.int (nI f), .int (nI o)]) (rest := []) ⟨hx, hb, hml, hown, hts⟩ (c_X2_init l D cy ev s.heap.size a 1 f o f0 o0 (by decide)) (kz_cwI 2 hts wm_288 wm_286 wm_287 wm_282 rfl rfl rfl (by decide +kernel) ⟨Nat.le_of_ble_eq_true rfl, Nat.le_of_ble_eq_true rfl⟩) hK hE hPc kz_P0 (kz_D0 hDs hAE) (Nat.le_trans hsz hS.1) hS hFc rfl hl.1 rfl (Nat.le_of_ble_eq_true rfl) dX0_init_3 ⟨Nat.le_of_ble_eq_true rfl, Nat.le_of_ble_eq_true rfl⟩ (fun u H locs _ hP1 hD1 hz1 hk1 hS => ?_)
  have hP := hP1
  have hD := hD1.weaken (fun _ _ _ h => hFc _ h)
  have hP : va_P D vwCl [zO a 0 [.int (nI f), .int (nI o)]] H := hP
  have hD : va_D (va_A [zO a 0 [.int f0, .int o0]] s.heap.size) [zO a 0 [.int (nI f), .int (nI o)]] := hD
  have hR := kz_keep hR0 hN hS
  have hE := hE0.kept hAE hS
  exact wr_rv (()) hx hb hr hlk hS dX0_init_6 (trivial) (hP) (hD)
set_option maxHeartbeats 4000000 in
set_option maxRecDepth 100000 in
theorem c_X0_init_4 (l : Launch) (D : va_G) (cy : Nat → ClassId) (ev : kz_V) (sz : Nat) (a f o : Nat) (f0 o0 : Int32) : Met l yX0_init (.code yX0_init cX0_init 3 none :: WB) { frames := 2, cells := 0, slots := 0, locals := 34 } (wr_Pc D cy ev [.ref a, .int (nI f), .int (nI o)] [zO a 5 [.int f0, .int o0]] [] sz) (va_Qv (S := Unit) (fun _ => True) (wr_B D [zO a 5 [.int f0, .int o0]] sz (fun u => [zO a 5 [.int (nI f), .int (nI o)]])) (va_A [zO a 5 [.int f0, .int o0]] sz)) 0 0 (va_A [zO a 5 [.int f0, .int o0]] sz) := by
  refine Met.ofW (cc := cX0_init) (maxL := 3) (ret := none) (by decide) rfl ?_
  intro p e s m args below meth c s₁ B hml hv
  obtain ⟨rfl, rfl, hP, hR, hK, hD0, hE0, hsz⟩ := hv
  have hx := B.exec
  have hb := B.bytes
  have hr := B.returns
  have hlk := B.notSynchronized
  have hts : ∀ w ∈ WB, w.before _ s = true := fun w h => atoms_spec B.pre w (List.mem_cons_of_mem _ h)
  have hown : s.vm.findClass RX0 = some m.cls := findClass_of_methodNamed B.named
  have hin : meth.name = "<init>" := (name_of_methodNamed B.named B.method).1
  have hN := kz_out hD0 hR
  have hR0 := hR
  have hAE := kz_up hD0 hsz
  have hE := hE0
  have hD := hD0.left.self (sz := s.heap.size)
  have hA : ∀ q9 : Nat, s.heap.size ≤ q9 → va_A [zO a 5 [.int f0, .int o0]] s.heap.size q9 := fun _ h => Or.inr h
  have hS : va_S (va_A [zO a 5 [.int f0, .int o0]] s.heap.size) s.heap s.heap [] := va_S.rf
  have hl := lv_entry ([.ref a, .int (nI f), .int (nI o)]) (n := 3) (Nat.le_of_ble_eq_true rfl)
  rw [lg_entry_eq]
  generalize (lg_sl ([.ref a, .int (nI f), .int (nI o)]) ++ List.replicate (3 - (lg_sl ([.ref a, .int (nI f), .int (nI o)])).length) Slot.unset).toArray = ls at hl ⊢
  have hl : lv_has ls 3 [(0, .ref a), (1, .int (nI f)), (2, .int (nI o))] := hl
  refine lv_aload_n hx hb dX0_init_0 rfl (lv_at hl 0 rfl) ?_
  refine lv_iload_n hx hb dX0_init_1 rfl (lv_at hl 1 rfl) ?_
  refine lv_iload_n hx hb dX0_init_2 rfl (lv_at hl 2 rfl) ?_
  have hPc : va_P D vwCl [zO a 5 [.int f0, .int o0]] s.heap := hP
  have hDs : va_D (va_A [zO a 5 [.int f0, .int o0]] s.heap.size) [zO a 5 [.int f0, .int o0]] := hD
  have hFc := va_free (wc := [zO a 5 [.int f0, .int o0]]) hD hS hA [0] rfl
  refine wr_Iv (ret := none) (As := [.int (nI f), .int (nI o)]) (rest := []) ⟨hx, hb, hml, hown, hts⟩ (c_X2_init l D cy ev s.heap.size a 4 f o f0 o0 (by decide)) (kz_cwI 2 hts wm_288 wm_286 wm_287 wm_282 rfl rfl rfl (by decide +kernel) ⟨Nat.le_of_ble_eq_true rfl, Nat.le_of_ble_eq_true rfl⟩) hK hE hPc kz_P0 (kz_D0 hDs hAE) (Nat.le_trans hsz hS.1) hS hFc rfl hl.1 rfl (Nat.le_of_ble_eq_true rfl) dX0_init_3 ⟨Nat.le_of_ble_eq_true rfl, Nat.le_of_ble_eq_true rfl⟩ (fun u H locs _ hP1 hD1 hz1 hk1 hS => ?_)
  have hP := hP1
  have hD := hD1.weaken (fun _ _ _ h => hFc _ h)
  have hP : va_P D vwCl [zO a 5 [.int (nI f), .int (nI o)]] H := hP
  have hD : va_D (va_A [zO a 5 [.int f0, .int o0]] s.heap.size) [zO a 5 [.int (nI f), .int (nI o)]] := hD
  have hR := kz_keep hR0 hN hS
  have hE := hE0.kept hAE hS
  exact wr_rv (()) hx hb hr hlk hS dX0_init_6 (trivial) (hP) (hD)
set_option maxHeartbeats 4000000 in
set_option maxRecDepth 100000 in
theorem c_X6_init (l : Launch) (D : va_G) (cy : Nat → ClassId) (ev : kz_V) (sz : Nat) (a f o : Nat) (f0 o0 : Int32) : Met l yX6_init (.code yX6_init cX6_init 3 none :: WB) { frames := 2, cells := 0, slots := 0, locals := 34 } (wr_Pc D cy ev [.ref a, .int (nI f), .int (nI o)] [zO a 6 [.int f0, .int o0]] [] sz) (va_Qv (S := Unit) (fun _ => True) (wr_B D [zO a 6 [.int f0, .int o0]] sz (fun u => [zO a 6 [.int (nI f), .int (nI o)]])) (va_A [zO a 6 [.int f0, .int o0]] sz)) 0 0 (va_A [zO a 6 [.int f0, .int o0]] sz) := by
  refine Met.ofW (cc := cX6_init) (maxL := 3) (ret := none) (by decide) rfl ?_
  intro p e s m args below meth c s₁ B hml hv
  obtain ⟨rfl, rfl, hP, hR, hK, hD0, hE0, hsz⟩ := hv
  have hx := B.exec
  have hb := B.bytes
  have hr := B.returns
  have hlk := B.notSynchronized
  have hts : ∀ w ∈ WB, w.before _ s = true := fun w h => atoms_spec B.pre w (List.mem_cons_of_mem _ h)
  have hown : s.vm.findClass RX6 = some m.cls := findClass_of_methodNamed B.named
  have hin : meth.name = "<init>" := (name_of_methodNamed B.named B.method).1
  have hN := kz_out hD0 hR
  have hR0 := hR
  have hAE := kz_up hD0 hsz
  have hE := hE0
  have hD := hD0.left.self (sz := s.heap.size)
  have hA : ∀ q9 : Nat, s.heap.size ≤ q9 → va_A [zO a 6 [.int f0, .int o0]] s.heap.size q9 := fun _ h => Or.inr h
  have hS : va_S (va_A [zO a 6 [.int f0, .int o0]] s.heap.size) s.heap s.heap [] := va_S.rf
  have hl := lv_entry ([.ref a, .int (nI f), .int (nI o)]) (n := 3) (Nat.le_of_ble_eq_true rfl)
  rw [lg_entry_eq]
  generalize (lg_sl ([.ref a, .int (nI f), .int (nI o)]) ++ List.replicate (3 - (lg_sl ([.ref a, .int (nI f), .int (nI o)])).length) Slot.unset).toArray = ls at hl ⊢
  have hl : lv_has ls 3 [(0, .ref a), (1, .int (nI f)), (2, .int (nI o))] := hl
  refine lv_aload_n hx hb dX6_init_0 rfl (lv_at hl 0 rfl) ?_
  refine lv_iload_n hx hb dX6_init_1 rfl (lv_at hl 1 rfl) ?_
  refine lv_iload_n hx hb dX6_init_2 rfl (lv_at hl 2 rfl) ?_
  have hPc : va_P D vwCl [zO a 6 [.int f0, .int o0]] s.heap := hP
  have hDs : va_D (va_A [zO a 6 [.int f0, .int o0]] s.heap.size) [zO a 6 [.int f0, .int o0]] := hD
  have hFc := va_free (wc := [zO a 6 [.int f0, .int o0]]) hD hS hA [0] rfl
  refine wr_Iv (ret := none) (As := [.int (nI f), .int (nI o)]) (rest := []) ⟨hx, hb, hml, hown, hts⟩ (c_X2_init l D cy ev s.heap.size a 2 f o f0 o0 (by decide)) (kz_cwI 2 hts wm_288 wm_295 wm_287 wm_282 rfl rfl rfl (by decide +kernel) ⟨Nat.le_of_ble_eq_true rfl, Nat.le_of_ble_eq_true rfl⟩) hK hE hPc kz_P0 (kz_D0 hDs hAE) (Nat.le_trans hsz hS.1) hS hFc rfl hl.1 rfl (Nat.le_of_ble_eq_true rfl) dX6_init_3 ⟨Nat.le_of_ble_eq_true rfl, Nat.le_of_ble_eq_true rfl⟩ (fun u H locs _ hP1 hD1 hz1 hk1 hS => ?_)
  have hP := hP1
  have hD := hD1.weaken (fun _ _ _ h => hFc _ h)
  have hP : va_P D vwCl [zO a 6 [.int (nI f), .int (nI o)]] H := hP
  have hD : va_D (va_A [zO a 6 [.int f0, .int o0]] s.heap.size) [zO a 6 [.int (nI f), .int (nI o)]] := hD
  have hR := kz_keep hR0 hN hS
  have hE := hE0.kept hAE hS
  exact wr_rv (()) hx hb hr hlk hS dX6_init_6 (trivial) (hP) (hD)
set_option maxHeartbeats 4000000 in
set_option maxRecDepth 100000 in
theorem c_X3_init (l : Launch) (D : va_G) (cy : Nat → ClassId) (ev : kz_V) (sz : Nat) (a f o : Nat) (f0 o0 : Int32) : Met l yX3_init (.code yX3_init cX3_init 3 none :: WB) { frames := 2, cells := 0, slots := 0, locals := 34 } (wr_Pc D cy ev [.ref a, .int (nI f), .int (nI o)] [zO a 3 [.int f0, .int o0]] [] sz) (va_Qv (S := Unit) (fun _ => True) (wr_B D [zO a 3 [.int f0, .int o0]] sz (fun u => [zO a 3 [.int (nI f), .int (nI o)]])) (va_A [zO a 3 [.int f0, .int o0]] sz)) 0 0 (va_A [zO a 3 [.int f0, .int o0]] sz) := by
  refine Met.ofW (cc := cX3_init) (maxL := 3) (ret := none) (by decide) rfl ?_
  intro p e s m args below meth c s₁ B hml hv
  obtain ⟨rfl, rfl, hP, hR, hK, hD0, hE0, hsz⟩ := hv
  have hx := B.exec
  have hb := B.bytes
  have hr := B.returns
  have hlk := B.notSynchronized
  have hts : ∀ w ∈ WB, w.before _ s = true := fun w h => atoms_spec B.pre w (List.mem_cons_of_mem _ h)
  have hown : s.vm.findClass RX3 = some m.cls := findClass_of_methodNamed B.named
  have hin : meth.name = "<init>" := (name_of_methodNamed B.named B.method).1
  have hN := kz_out hD0 hR
  have hR0 := hR
  have hAE := kz_up hD0 hsz
  have hE := hE0
  have hD := hD0.left.self (sz := s.heap.size)
  have hA : ∀ q9 : Nat, s.heap.size ≤ q9 → va_A [zO a 3 [.int f0, .int o0]] s.heap.size q9 := fun _ h => Or.inr h
  have hS : va_S (va_A [zO a 3 [.int f0, .int o0]] s.heap.size) s.heap s.heap [] := va_S.rf
  have hl := lv_entry ([.ref a, .int (nI f), .int (nI o)]) (n := 3) (Nat.le_of_ble_eq_true rfl)
  rw [lg_entry_eq]
  generalize (lg_sl ([.ref a, .int (nI f), .int (nI o)]) ++ List.replicate (3 - (lg_sl ([.ref a, .int (nI f), .int (nI o)])).length) Slot.unset).toArray = ls at hl ⊢
  have hl : lv_has ls 3 [(0, .ref a), (1, .int (nI f)), (2, .int (nI o))] := hl
  refine lv_aload_n hx hb dX3_init_0 rfl (lv_at hl 0 rfl) ?_
  refine lv_iload_n hx hb dX3_init_1 rfl (lv_at hl 1 rfl) ?_
  refine lv_iload_n hx hb dX3_init_2 rfl (lv_at hl 2 rfl) ?_
  have hPc : va_P D vwCl [zO a 3 [.int f0, .int o0]] s.heap := hP
  have hDs : va_D (va_A [zO a 3 [.int f0, .int o0]] s.heap.size) [zO a 3 [.int f0, .int o0]] := hD
  have hFc := va_free (wc := [zO a 3 [.int f0, .int o0]]) hD hS hA [0] rfl
  refine wr_Iv (ret := none) (As := [.int (nI f), .int (nI o)]) (rest := []) ⟨hx, hb, hml, hown, hts⟩ (c_X2_init l D cy ev s.heap.size a 3 f o f0 o0 (by decide)) (kz_cwI 2 hts wm_288 wm_299 wm_287 wm_282 rfl rfl rfl (by decide +kernel) ⟨Nat.le_of_ble_eq_true rfl, Nat.le_of_ble_eq_true rfl⟩) hK hE hPc kz_P0 (kz_D0 hDs hAE) (Nat.le_trans hsz hS.1) hS hFc rfl hl.1 rfl (Nat.le_of_ble_eq_true rfl) dX3_init_3 ⟨Nat.le_of_ble_eq_true rfl, Nat.le_of_ble_eq_true rfl⟩ (fun u H locs _ hP1 hD1 hz1 hk1 hS => ?_)
  have hP := hP1
  have hD := hD1.weaken (fun _ _ _ h => hFc _ h)
  have hP : va_P D vwCl [zO a 3 [.int (nI f), .int (nI o)]] H := hP
  have hD : va_D (va_A [zO a 3 [.int f0, .int o0]] s.heap.size) [zO a 3 [.int (nI f), .int (nI o)]] := hD
  have hR := kz_keep hR0 hN hS
  have hE := hE0.kept hAE hS
  exact wr_rv (()) hx hb hr hlk hS dX3_init_6 (trivial) (hP) (hD)
set_option maxHeartbeats 4000000 in
set_option maxRecDepth 100000 in
theorem c_X5_init (l : Launch) (D : va_G) (cy : Nat → ClassId) (ev : kz_V) (sz : Nat) (a f o : Nat) (f0 o0 : Int32) : Met l yX5_init (.code yX5_init cX5_init 3 none :: WB) { frames := 3, cells := 0, slots := 0, locals := 56 } (wr_Pc D cy ev [.ref a, .int (nI f), .int (nI o)] [zO a 5 [.int f0, .int o0]] [] sz) (va_Qv (S := Unit) (fun _ => True) (wr_B D [zO a 5 [.int f0, .int o0]] sz (fun u => [zO a 5 [.int (nI f), .int (nI o)]])) (va_A [zO a 5 [.int f0, .int o0]] sz)) 0 0 (va_A [zO a 5 [.int f0, .int o0]] sz) := by
  refine Met.ofW (cc := cX5_init) (maxL := 3) (ret := none) (by decide) rfl ?_
  intro p e s m args below meth c s₁ B hml hv
  obtain ⟨rfl, rfl, hP, hR, hK, hD0, hE0, hsz⟩ := hv
  have hx := B.exec
  have hb := B.bytes
  have hr := B.returns
  have hlk := B.notSynchronized
  have hts : ∀ w ∈ WB, w.before _ s = true := fun w h => atoms_spec B.pre w (List.mem_cons_of_mem _ h)
  have hown : s.vm.findClass RX5 = some m.cls := findClass_of_methodNamed B.named
  have hin : meth.name = "<init>" := (name_of_methodNamed B.named B.method).1
  have hN := kz_out hD0 hR
  have hR0 := hR
  have hAE := kz_up hD0 hsz
  have hE := hE0
  have hD := hD0.left.self (sz := s.heap.size)
  have hA : ∀ q9 : Nat, s.heap.size ≤ q9 → va_A [zO a 5 [.int f0, .int o0]] s.heap.size q9 := fun _ h => Or.inr h
  have hS : va_S (va_A [zO a 5 [.int f0, .int o0]] s.heap.size) s.heap s.heap [] := va_S.rf
  have hl := lv_entry ([.ref a, .int (nI f), .int (nI o)]) (n := 3) (Nat.le_of_ble_eq_true rfl)
  rw [lg_entry_eq]
  generalize (lg_sl ([.ref a, .int (nI f), .int (nI o)]) ++ List.replicate (3 - (lg_sl ([.ref a, .int (nI f), .int (nI o)])).length) Slot.unset).toArray = ls at hl ⊢
  have hl : lv_has ls 3 [(0, .ref a), (1, .int (nI f)), (2, .int (nI o))] := hl
  refine lv_aload_n hx hb dX5_init_0 rfl (lv_at hl 0 rfl) ?_
  refine lv_iload_n hx hb dX5_init_1 rfl (lv_at hl 1 rfl) ?_
  refine lv_iload_n hx hb dX5_init_2 rfl (lv_at hl 2 rfl) ?_
  have hPc : va_P D vwCl [zO a 5 [.int f0, .int o0]] s.heap := hP
  have hDs : va_D (va_A [zO a 5 [.int f0, .int o0]] s.heap.size) [zO a 5 [.int f0, .int o0]] := hD
  have hFc := va_free (wc := [zO a 5 [.int f0, .int o0]]) hD hS hA [0] rfl
  refine wr_Iv (ret := none) (As := [.int (nI f), .int (nI o)]) (rest := []) ⟨hx, hb, hml, hown, hts⟩ (c_X0_init_4 l D cy ev s.heap.size a f o f0 o0) (kz_cwI 2 hts wm_285 wm_303 wm_284 wm_270 rfl rfl rfl (by decide +kernel) ⟨Nat.le_of_ble_eq_true rfl, Nat.le_of_ble_eq_true rfl⟩) hK hE hPc kz_P0 (kz_D0 hDs hAE) (Nat.le_trans hsz hS.1) hS hFc rfl hl.1 rfl (Nat.le_of_ble_eq_true rfl) dX5_init_3 ⟨Nat.le_of_ble_eq_true rfl, Nat.le_of_ble_eq_true rfl⟩ (fun u H locs _ hP1 hD1 hz1 hk1 hS => ?_)
  have hP := hP1
  have hD := hD1.weaken (fun _ _ _ h => hFc _ h)
  have hP : va_P D vwCl [zO a 5 [.int (nI f), .int (nI o)]] H := hP
  have hD : va_D (va_A [zO a 5 [.int f0, .int o0]] s.heap.size) [zO a 5 [.int (nI f), .int (nI o)]] := hD
  have hR := kz_keep hR0 hN hS
  have hE := hE0.kept hAE hS
  exact wr_rv (()) hx hb hr hlk hS dX5_init_6 (trivial) (hP) (hD)
set_option maxHeartbeats 4000000 in
set_option maxRecDepth 100000 in
theorem c_X1_readPerson (l : Launch) (D : va_G) (cy : Nat → ClassId) (ev : kz_V) (sz : Nat) (a b : Nat) (pg : Nat → Nat) (n : Nat) (hn : n ≤ 18) (hpg : ∀ i, i < n → 32 ≤ pg i ∧ pg i ≤ 126) (j : Nat) (hj : j < 100) (hok : kOk (cd pg n (j * 4)) = true) (h1 : 48 ≤ cd pg n (j * 4 + 1)) (h2 : 48 ≤ cd pg n (j * 4 + 2)) : Met l yX1_readPerson (.code yX1_readPerson cX1_readPerson 5 (some (.object "DryLoaf$Person")) :: WB) { frames := 5, cells := 1, slots := 2, locals := 112 } (wr_Pc D cy ev [.ref a, .int (nI j)] [] [zO a 1 [.ref b, .int (nI n)], zI cy b 18 (fun i9 => nI (pg i9))] sz) (va_Qr (S := Unit) (fun _ => True) (fun u ra t => va_P D vwCl ([zO ra (pk (kdC pg n j)) [.int (nI (feC pg n j)), .int (nI (odC pg n j))]]) t.heap ∧ va_D (va_A [] sz) ([zO ra (pk (kdC pg n j)) [.int (nI (feC pg n j)), .int (nI (odC pg n j))]])) (va_A [] sz)) 1 2 (va_A [] sz) := by
  refine Met.ofW (cc := cX1_readPerson) (maxL := 5) (ret := (some (.object "DryLoaf$Person"))) (by decide) rfl ?_
  intro p e s m args below meth c s₁ B hml hv
  obtain ⟨rfl, rfl, hP, hR, hK, hD0, hE0, hsz⟩ := hv
  have hx := B.exec
  have hb := B.bytes
  have hr := B.returns
  have hlk := B.notSynchronized
  have hts : ∀ w ∈ WB, w.before _ s = true := fun w h => atoms_spec B.pre w (List.mem_cons_of_mem _ h)
  have hown : s.vm.findClass RX1 = some m.cls := findClass_of_methodNamed B.named
  have hN := kz_out hD0 hR
  have hR0 := hR
  have hAE := kz_up hD0 hsz
  have hE := hE0
  have hD := hD0.left.self (sz := s.heap.size)
  have hA : ∀ q9 : Nat, s.heap.size ≤ q9 → va_A [] s.heap.size q9 := fun _ h => Or.inr h
  have hS : va_S (va_A [] s.heap.size) s.heap s.heap [] := va_S.rf
  have hl := lv_entry ([.ref a, .int (nI j)]) (n := 5) (Nat.le_of_ble_eq_true rfl)
  rw [lg_entry_eq]
  generalize (lg_sl ([.ref a, .int (nI j)]) ++ List.replicate (5 - (lg_sl ([.ref a, .int (nI j)])).length) Slot.unset).toArray = ls at hl ⊢
  have hl : lv_has ls 5 [(0, .ref a), (1, .int (nI j))] := hl
  refine lv_iload_n hx hb dX1_readPerson_0 rfl (lv_at hl 1 rfl) ?_
  refine lv_iconst (v := nI 4) hx hb dX1_readPerson_1 (by decide) ?_
  refine kn_imul hx hb dX1_readPerson_2 ?_
  refine lv_istore_n (lv' := [(2, .int (nI (j * 4))), (0, .ref a), (1, .int (nI j))]) hx hb dX1_readPerson_3 rfl hl (by decide) rfl (fun ls hl => ?_)
  refine lv_aload_n hx hb dX1_readPerson_4 rfl (lv_at hl 1 rfl) ?_
  refine lv_iload_n hx hb dX1_readPerson_5 rfl (lv_at hl 0 rfl) ?_
  refine lv_iconst (v := nI 1) hx hb dX1_readPerson_6 (by decide) ?_
  refine kn_iadd hx hb dX1_readPerson_7 ?_
  refine ro_Vi (As := [.int (nI ((j * 4) + 1))]) (rest := []) (v := nI (cd pg n ((j * 4) + 1)) - nI 48) ⟨hx, hb, hml, hown, hts⟩ (c_X1_digitAt l D cy ev a b pg n hn hpg ((j * 4) + 1) (by omega)) (kz_cwV 1 hts wm_209 wm_206 wm_207 wm_208 wm_14 rfl rfl (by decide +kernel) ⟨Nat.le_of_ble_eq_true rfl, Nat.le_of_ble_eq_true rfl⟩) hK hE (hR.sub (ws' := [zO a 1 [.ref b, .int (nI n)], zI cy b 18 (fun i9 => nI (pg i9))]) [0, 1] rfl) (kz_recv 0 hK hR rfl rfl) rfl hl.1 rfl (Nat.le_of_ble_eq_true rfl) dX1_readPerson_8 ⟨Nat.le_of_ble_eq_true rfl, Nat.le_of_ble_eq_true rfl⟩ ?_
  have hcd11 : cd pg n ((j * 4) + 1) ≤ 126 := cd_le hpg _
  refine kn_as (st' := [.int (nI (feC pg n j))]) (by rw [pk_sub (show 48 ≤ cd pg n ((j * 4) + 1) by omega)]; rfl) ?_
  refine lv_istore_n (lv' := [(3, .int (nI (feC pg n j))), (2, .int (nI (j * 4))), (0, .ref a), (1, .int (nI j))]) hx hb dX1_readPerson_11 rfl hl (by decide) rfl (fun ls hl => ?_)
  refine lv_aload_n hx hb dX1_readPerson_12 rfl (lv_at hl 2 rfl) ?_
  refine lv_iload_n hx hb dX1_readPerson_13 rfl (lv_at hl 1 rfl) ?_
  refine lv_iconst (v := nI 2) hx hb dX1_readPerson_14 (by decide) ?_
  refine kn_iadd hx hb dX1_readPerson_15 ?_
  refine ro_Vi (As := [.int (nI ((j * 4) + 2))]) (rest := []) (v := nI (cd pg n ((j * 4) + 2)) - nI 48) ⟨hx, hb, hml, hown, hts⟩ (c_X1_digitAt l D cy ev a b pg n hn hpg ((j * 4) + 2) (by omega)) (kz_cwV 1 hts wm_209 wm_206 wm_207 wm_208 wm_14 rfl rfl (by decide +kernel) ⟨Nat.le_of_ble_eq_true rfl, Nat.le_of_ble_eq_true rfl⟩) hK hE (hR.sub (ws' := [zO a 1 [.ref b, .int (nI n)], zI cy b 18 (fun i9 => nI (pg i9))]) [0, 1] rfl) (kz_recv 0 hK hR rfl rfl) rfl hl.1 rfl (Nat.le_of_ble_eq_true rfl) dX1_readPerson_16 ⟨Nat.le_of_ble_eq_true rfl, Nat.le_of_ble_eq_true rfl⟩ ?_
  have hcd19 : cd pg n ((j * 4) + 2) ≤ 126 := cd_le hpg _
  refine kn_as (st' := [.int (nI (odC pg n j))]) (by rw [pk_sub (show 48 ≤ cd pg n ((j * 4) + 2) by omega)]; rfl) ?_
  refine lv_istore (lv' := [(4, .int (nI (odC pg n j))), (3, .int (nI (feC pg n j))), (2, .int (nI (j * 4))), (0, .ref a), (1, .int (nI j))]) hx hb dX1_readPerson_19 hl (by decide) rfl (fun ls hl => ?_)
  refine lv_aload_n hx hb dX1_readPerson_21 rfl (lv_at hl 3 rfl) ?_
  refine lv_iload_n hx hb dX1_readPerson_22 rfl (lv_at hl 2 rfl) ?_
  refine ro_Vi (As := [.int (nI (j * 4))]) (rest := []) (v := kI (cd pg n (j * 4))) ⟨hx, hb, hml, hown, hts⟩ (c_X1_kindAt l D cy ev a b pg n hn hpg (j * 4) (by omega)) (kz_cwV 1 hts wm_108 wm_105 wm_106 wm_107 wm_14 rfl rfl (by decide +kernel) ⟨Nat.le_of_ble_eq_true rfl, Nat.le_of_ble_eq_true rfl⟩) hK hE (hR.sub (ws' := [zO a 1 [.ref b, .int (nI n)], zI cy b 18 (fun i9 => nI (pg i9))]) [0, 1] rfl) (kz_recv 0 hK hR rfl rfl) rfl hl.1 rfl (Nat.le_of_ble_eq_true rfl) dX1_readPerson_23 ⟨Nat.le_of_ble_eq_true rfl, Nat.le_of_ble_eq_true rfl⟩ ?_
  obtain ⟨kn, hkn⟩ : ∃ kn, kn = kdC pg n j := ⟨_, rfl⟩
  have hk5 : kn < 5 := by rw [hkn]; exact kN_lt _
  refine kn_as (st' := [.int (nI kn)]) (by rw [kI_ok hok, hkn]; rfl) ?_
  rcases (show kn = 0 ∨ kn = 1 ∨ kn = 2 ∨ kn = 3 ∨ kn = 4 by omega) with rfl | rfl | rfl | rfl | rfl
  · skip
    refine lv_tableOut (tgt := 100) hx hb dX1_readPerson_26 (by decide) (by decide) ?_
    refine va_new (ci := 2) (fs := [.int 0, .int 0]) (C := RX2) (T := TX2) (N := 2) hx hb hts inX2 tyX2 tyX2_ok hown (hts _ wm_280) (hts _ wm_281) (hts _ wm_282) hK hP hD hS hA rfl (by decide +kernel) (Nat.le_of_ble_eq_true rfl) (Nat.le_of_ble_eq_true rfl) dX1_readPerson_100 (fun q100 H hP hD hS => ?_)
    have hP : va_P D vwCl [zO q100 2 [.int 0, .int 0]] H := hP
    have hD : va_D (va_A [] s.heap.size) [zO q100 2 [.int 0, .int 0]] := hD
    have hR := kz_keep hR0 hN hS
    have hE := hE0.kept hAE hS
    refine W.widen (k := 1) (n := 2) (by omega) (by omega) ?_
    refine lv_dup hx hb dX1_readPerson_103 rfl ?_
    refine lv_iload_n hx hb dX1_readPerson_104 rfl (lv_at hl 1 rfl) ?_
    refine lv_iload hx hb dX1_readPerson_105 (lv_at hl 0 rfl) ?_
    have hPc : va_P D vwCl [zO q100 2 [.int 0, .int 0]] H := hP
    have hDs : va_D (va_A [] s.heap.size) [zO q100 2 [.int 0, .int 0]] := hD
    have hFc := va_free (wc := [zO q100 2 [.int 0, .int 0]]) hD hS hA [0] rfl
    refine wr_Iv (ret := none) (As := [.int (nI (feC pg n j)), .int (nI (odC pg n j))]) (rest := [.ref q100]) ⟨hx, hb, hml, hown, hts⟩ (c_X2_init l D cy ev H.size q100 0 (feC pg n j) (odC pg n j) 0 0 (by decide)) (kz_cwI 2 hts wm_288 wm_304 wm_287 wm_282 rfl rfl rfl (by decide +kernel) ⟨Nat.le_of_ble_eq_true rfl, Nat.le_of_ble_eq_true rfl⟩) hK hE hPc kz_P0 (kz_D0 hDs hAE) (Nat.le_trans hsz hS.1) hS hFc rfl hl.1 rfl (Nat.le_of_ble_eq_true rfl) dX1_readPerson_107 ⟨Nat.le_of_ble_eq_true rfl, Nat.le_of_ble_eq_true rfl⟩ (fun u H locs _ hP1 hD1 hz1 hk1 hS => ?_)
    have hP := hP1
    have hD := hD1.weaken (fun _ _ _ h => hFc _ h)
    have hP : va_P D vwCl [zO q100 2 [.int (nI (feC pg n j)), .int (nI (odC pg n j))]] H := hP
    have hD : va_D (va_A [] s.heap.size) [zO q100 2 [.int (nI (feC pg n j)), .int (nI (odC pg n j))]] := hD
    have hR := kz_keep hR0 hN hS
    have hE := hE0.kept hAE hS
    exact wr_rr (()) hx hb hr hlk hS dX1_readPerson_110 (trivial) (by rw [← hkn]; exact hP) (by rw [← hkn]; exact hD)
  · skip
    refine lv_tableIn (tgt := 56) (off := 30) hx hb dX1_readPerson_26 (by decide) (by decide) rfl (by decide) ?_
    refine va_new (ci := 0) (fs := [.int 0, .int 0]) (C := RX0) (T := TX0) (N := 2) hx hb hts inX0 tyX0 tyX0_ok hown (hts _ wm_268) (hts _ wm_269) (hts _ wm_270) hK hP hD hS hA rfl (by decide +kernel) (Nat.le_of_ble_eq_true rfl) (Nat.le_of_ble_eq_true rfl) dX1_readPerson_56 (fun q56 H hP hD hS => ?_)
    have hP : va_P D vwCl [zO q56 0 [.int 0, .int 0]] H := hP
    have hD : va_D (va_A [] s.heap.size) [zO q56 0 [.int 0, .int 0]] := hD
    have hR := kz_keep hR0 hN hS
    have hE := hE0.kept hAE hS
    refine W.widen (k := 1) (n := 2) (by omega) (by omega) ?_
    refine lv_dup hx hb dX1_readPerson_59 rfl ?_
    refine lv_iload_n hx hb dX1_readPerson_60 rfl (lv_at hl 1 rfl) ?_
    refine lv_iload hx hb dX1_readPerson_61 (lv_at hl 0 rfl) ?_
    have hPc : va_P D vwCl [zO q56 0 [.int 0, .int 0]] H := hP
    have hDs : va_D (va_A [] s.heap.size) [zO q56 0 [.int 0, .int 0]] := hD
    have hFc := va_free (wc := [zO q56 0 [.int 0, .int 0]]) hD hS hA [0] rfl
    refine wr_Iv (ret := none) (As := [.int (nI (feC pg n j)), .int (nI (odC pg n j))]) (rest := [.ref q56]) ⟨hx, hb, hml, hown, hts⟩ (c_X0_init_1 l D cy ev H.size q56 (feC pg n j) (odC pg n j) 0 0) (kz_cwI 2 hts wm_285 wm_283 wm_284 wm_270 rfl rfl rfl (by decide +kernel) ⟨Nat.le_of_ble_eq_true rfl, Nat.le_of_ble_eq_true rfl⟩) hK hE hPc kz_P0 (kz_D0 hDs hAE) (Nat.le_trans hsz hS.1) hS hFc rfl hl.1 rfl (Nat.le_of_ble_eq_true rfl) dX1_readPerson_63 ⟨Nat.le_of_ble_eq_true rfl, Nat.le_of_ble_eq_true rfl⟩ (fun u H locs _ hP1 hD1 hz1 hk1 hS => ?_)
    have hP := hP1
    have hD := hD1.weaken (fun _ _ _ h => hFc _ h)
    have hP : va_P D vwCl [zO q56 0 [.int (nI (feC pg n j)), .int (nI (odC pg n j))]] H := hP
    have hD : va_D (va_A [] s.heap.size) [zO q56 0 [.int (nI (feC pg n j)), .int (nI (odC pg n j))]] := hD
    have hR := kz_keep hR0 hN hS
    have hE := hE0.kept hAE hS
    exact wr_rr (()) hx hb hr hlk hS dX1_readPerson_66 (trivial) (by rw [← hkn]; exact hP) (by rw [← hkn]; exact hD)
  · skip
    refine lv_tableIn (tgt := 67) (off := 41) hx hb dX1_readPerson_26 (by decide) (by decide) rfl (by decide) ?_
    refine va_new (ci := 6) (fs := [.int 0, .int 0]) (C := RX6) (T := TX6) (N := 2) hx hb hts inX6 tyX6 tyX6_ok hown (hts _ wm_271) (hts _ wm_272) (hts _ wm_273) hK hP hD hS hA rfl (by decide +kernel) (Nat.le_of_ble_eq_true rfl) (Nat.le_of_ble_eq_true rfl) dX1_readPerson_67 (fun q67 H hP hD hS => ?_)
    have hP : va_P D vwCl [zO q67 6 [.int 0, .int 0]] H := hP
    have hD : va_D (va_A [] s.heap.size) [zO q67 6 [.int 0, .int 0]] := hD
    have hR := kz_keep hR0 hN hS
    have hE := hE0.kept hAE hS
    refine W.widen (k := 1) (n := 2) (by omega) (by omega) ?_
    refine lv_dup hx hb dX1_readPerson_70 rfl ?_
    refine lv_iload_n hx hb dX1_readPerson_71 rfl (lv_at hl 1 rfl) ?_
    refine lv_iload hx hb dX1_readPerson_72 (lv_at hl 0 rfl) ?_
    have hPc : va_P D vwCl [zO q67 6 [.int 0, .int 0]] H := hP
    have hDs : va_D (va_A [] s.heap.size) [zO q67 6 [.int 0, .int 0]] := hD
    have hFc := va_free (wc := [zO q67 6 [.int 0, .int 0]]) hD hS hA [0] rfl
    refine wr_Iv (ret := none) (As := [.int (nI (feC pg n j)), .int (nI (odC pg n j))]) (rest := [.ref q67]) ⟨hx, hb, hml, hown, hts⟩ (c_X6_init l D cy ev H.size q67 (feC pg n j) (odC pg n j) 0 0) (kz_cwI 2 hts wm_294 wm_292 wm_293 wm_273 rfl rfl rfl (by decide +kernel) ⟨Nat.le_of_ble_eq_true rfl, Nat.le_of_ble_eq_true rfl⟩) hK hE hPc kz_P0 (kz_D0 hDs hAE) (Nat.le_trans hsz hS.1) hS hFc rfl hl.1 rfl (Nat.le_of_ble_eq_true rfl) dX1_readPerson_74 ⟨Nat.le_of_ble_eq_true rfl, Nat.le_of_ble_eq_true rfl⟩ (fun u H locs _ hP1 hD1 hz1 hk1 hS => ?_)
    have hP := hP1
    have hD := hD1.weaken (fun _ _ _ h => hFc _ h)
    have hP : va_P D vwCl [zO q67 6 [.int (nI (feC pg n j)), .int (nI (odC pg n j))]] H := hP
    have hD : va_D (va_A [] s.heap.size) [zO q67 6 [.int (nI (feC pg n j)), .int (nI (odC pg n j))]] := hD
    have hR := kz_keep hR0 hN hS
    have hE := hE0.kept hAE hS
    exact wr_rr (()) hx hb hr hlk hS dX1_readPerson_77 (trivial) (by rw [← hkn]; exact hP) (by rw [← hkn]; exact hD)
  · skip
    refine lv_tableIn (tgt := 78) (off := 52) hx hb dX1_readPerson_26 (by decide) (by decide) rfl (by decide) ?_
    refine va_new (ci := 3) (fs := [.int 0, .int 0]) (C := RX3) (T := TX3) (N := 2) hx hb hts inX3 tyX3 tyX3_ok hown (hts _ wm_274) (hts _ wm_275) (hts _ wm_276) hK hP hD hS hA rfl (by decide +kernel) (Nat.le_of_ble_eq_true rfl) (Nat.le_of_ble_eq_true rfl) dX1_readPerson_78 (fun q78 H hP hD hS => ?_)
    have hP : va_P D vwCl [zO q78 3 [.int 0, .int 0]] H := hP
    have hD : va_D (va_A [] s.heap.size) [zO q78 3 [.int 0, .int 0]] := hD
    have hR := kz_keep hR0 hN hS
    have hE := hE0.kept hAE hS
    refine W.widen (k := 1) (n := 2) (by omega) (by omega) ?_
    refine lv_dup hx hb dX1_readPerson_81 rfl ?_
    refine lv_iload_n hx hb dX1_readPerson_82 rfl (lv_at hl 1 rfl) ?_
    refine lv_iload hx hb dX1_readPerson_83 (lv_at hl 0 rfl) ?_
    have hPc : va_P D vwCl [zO q78 3 [.int 0, .int 0]] H := hP
    have hDs : va_D (va_A [] s.heap.size) [zO q78 3 [.int 0, .int 0]] := hD
    have hFc := va_free (wc := [zO q78 3 [.int 0, .int 0]]) hD hS hA [0] rfl
    refine wr_Iv (ret := none) (As := [.int (nI (feC pg n j)), .int (nI (odC pg n j))]) (rest := [.ref q78]) ⟨hx, hb, hml, hown, hts⟩ (c_X3_init l D cy ev H.size q78 (feC pg n j) (odC pg n j) 0 0) (kz_cwI 2 hts wm_298 wm_296 wm_297 wm_276 rfl rfl rfl (by decide +kernel) ⟨Nat.le_of_ble_eq_true rfl, Nat.le_of_ble_eq_true rfl⟩) hK hE hPc kz_P0 (kz_D0 hDs hAE) (Nat.le_trans hsz hS.1) hS hFc rfl hl.1 rfl (Nat.le_of_ble_eq_true rfl) dX1_readPerson_85 ⟨Nat.le_of_ble_eq_true rfl, Nat.le_of_ble_eq_true rfl⟩ (fun u H locs _ hP1 hD1 hz1 hk1 hS => ?_)
    have hP := hP1
    have hD := hD1.weaken (fun _ _ _ h => hFc _ h)
    have hP : va_P D vwCl [zO q78 3 [.int (nI (feC pg n j)), .int (nI (odC pg n j))]] H := hP
    have hD : va_D (va_A [] s.heap.size) [zO q78 3 [.int (nI (feC pg n j)), .int (nI (odC pg n j))]] := hD
    have hR := kz_keep hR0 hN hS
    have hE := hE0.kept hAE hS
    exact wr_rr (()) hx hb hr hlk hS dX1_readPerson_88 (trivial) (by rw [← hkn]; exact hP) (by rw [← hkn]; exact hD)
  · skip
    refine lv_tableIn (tgt := 89) (off := 63) hx hb dX1_readPerson_26 (by decide) (by decide) rfl (by decide) ?_
    refine va_new (ci := 5) (fs := [.int 0, .int 0]) (C := RX5) (T := TX5) (N := 2) hx hb hts inX5 tyX5 tyX5_ok hown (hts _ wm_277) (hts _ wm_278) (hts _ wm_279) hK hP hD hS hA rfl (by decide +kernel) (Nat.le_of_ble_eq_true rfl) (Nat.le_of_ble_eq_true rfl) dX1_readPerson_89 (fun q89 H hP hD hS => ?_)
    have hP : va_P D vwCl [zO q89 5 [.int 0, .int 0]] H := hP
    have hD : va_D (va_A [] s.heap.size) [zO q89 5 [.int 0, .int 0]] := hD
    have hR := kz_keep hR0 hN hS
    have hE := hE0.kept hAE hS
    refine W.widen (k := 1) (n := 2) (by omega) (by omega) ?_
    refine lv_dup hx hb dX1_readPerson_92 rfl ?_
    refine lv_iload_n hx hb dX1_readPerson_93 rfl (lv_at hl 1 rfl) ?_
    refine lv_iload hx hb dX1_readPerson_94 (lv_at hl 0 rfl) ?_
    have hPc : va_P D vwCl [zO q89 5 [.int 0, .int 0]] H := hP
    have hDs : va_D (va_A [] s.heap.size) [zO q89 5 [.int 0, .int 0]] := hD
    have hFc := va_free (wc := [zO q89 5 [.int 0, .int 0]]) hD hS hA [0] rfl
    refine wr_Iv (ret := none) (As := [.int (nI (feC pg n j)), .int (nI (odC pg n j))]) (rest := [.ref q89]) ⟨hx, hb, hml, hown, hts⟩ (c_X5_init l D cy ev H.size q89 (feC pg n j) (odC pg n j) 0 0) (kz_cwI 2 hts wm_302 wm_300 wm_301 wm_279 rfl rfl rfl (by decide +kernel) ⟨Nat.le_of_ble_eq_true rfl, Nat.le_of_ble_eq_true rfl⟩) hK hE hPc kz_P0 (kz_D0 hDs hAE) (Nat.le_trans hsz hS.1) hS hFc rfl hl.1 rfl (Nat.le_of_ble_eq_true rfl) dX1_readPerson_96 ⟨Nat.le_of_ble_eq_true rfl, Nat.le_of_ble_eq_true rfl⟩ (fun u H locs _ hP1 hD1 hz1 hk1 hS => ?_)
    have hP := hP1
    have hD := hD1.weaken (fun _ _ _ h => hFc _ h)
    have hP : va_P D vwCl [zO q89 5 [.int (nI (feC pg n j)), .int (nI (odC pg n j))]] H := hP
    have hD : va_D (va_A [] s.heap.size) [zO q89 5 [.int (nI (feC pg n j)), .int (nI (odC pg n j))]] := hD
    have hR := kz_keep hR0 hN hS
    have hE := hE0.kept hAE hS
    exact wr_rr (()) hx hb hr hlk hS dX1_readPerson_99 (trivial) (by rw [← hkn]; exact hP) (by rw [← hkn]; exact hD)
set_option maxHeartbeats 4000000 in
set_option maxRecDepth 100000 in
theorem c_X1_init (l : Launch) (D : va_G) (cy : Nat → ClassId) (ev : kz_V) (sz : Nat) (a : Nat) : Met l yX1_init (.code yX1_init cX1_init 1 none :: WB) { frames := 1, cells := 1, slots := 18, locals := 12 } (wr_Pc D cy ev [.ref a] [zO a 1 [.null, .int 0]] [] sz) (va_Qv (S := Nat) (fun _ => True) (wr_B D [zO a 1 [.null, .int 0]] sz (fun u => [zO a 1 [.ref u, .int (nI 0)], zI cy u 18 (fun i9 => nI (((fun _ => 0)) i9))])) (va_A [zO a 1 [.null, .int 0]] sz)) 1 18 (va_A [zO a 1 [.null, .int 0]] sz) := by
  refine Met.ofW (cc := cX1_init) (maxL := 1) (ret := none) (by decide) rfl ?_
  intro p e s m args below meth c s₁ B hml hv
  obtain ⟨rfl, rfl, hP, hR, hK, hD0, hE0, hsz⟩ := hv
  have hx := B.exec
  have hb := B.bytes
  have hr := B.returns
  have hlk := B.notSynchronized
  have hts : ∀ w ∈ WB, w.before _ s = true := fun w h => atoms_spec B.pre w (List.mem_cons_of_mem _ h)
  have hown : s.vm.findClass RX1 = some m.cls := findClass_of_methodNamed B.named
  have hin : meth.name = "<init>" := (name_of_methodNamed B.named B.method).1
  have hN := kz_out hD0 hR
  have hR0 := hR
  have hAE := kz_up hD0 hsz
  have hE := hE0
  have hD := hD0.left.self (sz := s.heap.size)
  have hA : ∀ q9 : Nat, s.heap.size ≤ q9 → va_A [zO a 1 [.null, .int 0]] s.heap.size q9 := fun _ h => Or.inr h
  have hS : va_S (va_A [zO a 1 [.null, .int 0]] s.heap.size) s.heap s.heap [] := va_S.rf
  have hl := lv_entry ([.ref a]) (n := 1) (Nat.le_of_ble_eq_true rfl)
  rw [lg_entry_eq]
  generalize (lg_sl ([.ref a]) ++ List.replicate (1 - (lg_sl ([.ref a])).length) Slot.unset).toArray = ls at hl ⊢
  have hl : lv_has ls 1 [(0, .ref a)] := hl
  refine lv_aload_n hx hb dX1_init_0 rfl (lv_at hl 0 rfl) ?_
  refine W.objInit hx hb hown (hts _ wm_29) (hts _ wm_10) (hts _ wm_11) rfl (by rw [hml]; exact hl.1) rfl dX1_init_1 (Nat.le_of_ble_eq_true rfl) (Nat.le_of_ble_eq_true rfl) ?_
  refine W.eq (g2 := F0 m 4 ls []) rfl ?_
  refine lv_aload_n hx hb dX1_init_4 rfl (lv_at hl 0 rfl) ?_
  refine lv_bipush (v := nI 18) hx hb dX1_init_5 (by decide) ?_
  refine kn_newa (a0 := (18, .inl (fun _ => 0))) hx hb 1 (hts _ wm_30) rfl rfl (fun _ h => by cases h) hK hP hD hS hA (fun cA => rfl) (by decide) (by decide) (Nat.le_of_ble_eq_true rfl) (Nat.le_of_ble_eq_true rfl) dX1_init_7 (fun q7 H hP hD hS => ?_)
  have hP : va_P D vwCl [zO a 1 [.null, .int 0], zI cy q7 18 ((fun _ => 0))] H := hP
  have hD : va_D (va_A [zO a 1 [.null, .int 0]] s.heap.size) [zO a 1 [.null, .int 0], zI cy q7 18 ((fun _ => 0))] := hD
  have hR := kz_keep hR0 hN hS
  have hE := hE0.kept hAE hS
  refine W.widen (k := 1) (n := 18) (by omega) (by omega) ?_
  refine va_putF (ci := 1) (C := RX1) (T := TX1) (N := 2) hx hb hts inX1 tyX1 tyX1_ok nmX1 hown hK hP hD hS 0 rfl rfl 0 (by decide) (hts _ wm_31) (fun _ h9 => h9) rfl hin rfl (tyX1_ok 0 (by decide)) rfl rfl (Nat.le_of_ble_eq_true rfl) dX1_init_9 (fun H locs hP hD hS => ?_)
  have hP : va_P D vwCl [zO a 1 [.ref q7, .int 0], zI cy q7 18 ((fun _ => 0))] H := hP
  have hD : va_D (va_A [zO a 1 [.null, .int 0]] s.heap.size) [zO a 1 [.ref q7, .int 0], zI cy q7 18 ((fun _ => 0))] := hD
  have hR := kz_keep hR0 hN hS
  have hE := hE0.kept hAE hS
  exact wr_rv (q7) hx hb hr hlk hS dX1_init_12 (trivial) (hP) (hD)
set_option maxHeartbeats 4000000 in
set_option maxRecDepth 100000 in
theorem c_X4_init (l : Launch) (D : va_G) (cy : Nat → ClassId) (ev : kz_V) (sz : Nat) (a : Nat) : Met l yX4_init (.code yX4_init cX4_init 1 none :: WB) { frames := 1, cells := 5, slots := 20, locals := 12 } (wr_Pc D cy ev [.ref a] [zO a 4 [.null, .null, .null, .null, .null, .int 0, .int 0]] [] sz) (va_Qv (S := Nat → Nat) (fun _ => True) (wr_B D [zO a 4 [.null, .null, .null, .null, .null, .int 0, .int 0]] sz (fun u => [zO a 4 [.ref (u 1), .ref (u 2), .ref (u 3), .ref (u 4), .ref (u 5), .int (nI 0), .int (nI 0)], zI cy (u 1) 4 (fun i9 => nI (((fun _ => 0)) i9)), zJ cy (u 2) 4 (fun i9 => lN (((fun _ => 0)) i9)), zI cy (u 3) 4 (fun i9 => nI (((fun _ => 0)) i9)), zI cy (u 4) 4 (fun i9 => nI (((fun _ => 0)) i9)), zI cy (u 5) 4 (fun _ => 0)])) (va_A [zO a 4 [.null, .null, .null, .null, .null, .int 0, .int 0]] sz)) 5 20 (va_A [zO a 4 [.null, .null, .null, .null, .null, .int 0, .int 0]] sz) := by
  refine Met.ofW (cc := cX4_init) (maxL := 1) (ret := none) (by decide) rfl ?_
  intro p e s m args below meth c s₁ B hml hv
  obtain ⟨rfl, rfl, hP, hR, hK, hD0, hE0, hsz⟩ := hv
  have hx := B.exec
  have hb := B.bytes
  have hr := B.returns
  have hlk := B.notSynchronized
  have hts : ∀ w ∈ WB, w.before _ s = true := fun w h => atoms_spec B.pre w (List.mem_cons_of_mem _ h)
  have hown : s.vm.findClass RX4 = some m.cls := findClass_of_methodNamed B.named
  have hin : meth.name = "<init>" := (name_of_methodNamed B.named B.method).1
  have hN := kz_out hD0 hR
  have hR0 := hR
  have hAE := kz_up hD0 hsz
  have hE := hE0
  have hD := hD0.left.self (sz := s.heap.size)
  have hA : ∀ q9 : Nat, s.heap.size ≤ q9 → va_A [zO a 4 [.null, .null, .null, .null, .null, .int 0, .int 0]] s.heap.size q9 := fun _ h => Or.inr h
  have hS : va_S (va_A [zO a 4 [.null, .null, .null, .null, .null, .int 0, .int 0]] s.heap.size) s.heap s.heap [] := va_S.rf
  have hl := lv_entry ([.ref a]) (n := 1) (Nat.le_of_ble_eq_true rfl)
  rw [lg_entry_eq]
  generalize (lg_sl ([.ref a]) ++ List.replicate (1 - (lg_sl ([.ref a])).length) Slot.unset).toArray = ls at hl ⊢
  have hl : lv_has ls 1 [(0, .ref a)] := hl
  refine lv_aload_n hx hb dX4_init_0 rfl (lv_at hl 0 rfl) ?_
  refine W.objInit hx hb hown (hts _ wm_35) (hts _ wm_10) (hts _ wm_11) rfl (by rw [hml]; exact hl.1) rfl dX4_init_1 (Nat.le_of_ble_eq_true rfl) (Nat.le_of_ble_eq_true rfl) ?_
  refine W.eq (g2 := F0 m 4 ls []) rfl ?_
  refine lv_aload_n hx hb dX4_init_4 rfl (lv_at hl 0 rfl) ?_
  refine lv_iconst (v := nI 4) hx hb dX4_init_5 (by decide) ?_
  refine kn_newa (a0 := (4, .inl (fun _ => 0))) hx hb 1 (hts _ wm_30) rfl rfl (fun _ h => by cases h) hK hP hD hS hA (fun cA => rfl) (by decide) (by decide) (Nat.le_of_ble_eq_true rfl) (Nat.le_of_ble_eq_true rfl) dX4_init_6 (fun q6 H hP hD hS => ?_)
  have hP : va_P D vwCl [zO a 4 [.null, .null, .null, .null, .null, .int 0, .int 0], zI cy q6 4 ((fun _ => 0))] H := hP
  have hD : va_D (va_A [zO a 4 [.null, .null, .null, .null, .null, .int 0, .int 0]] s.heap.size) [zO a 4 [.null, .null, .null, .null, .null, .int 0, .int 0], zI cy q6 4 ((fun _ => 0))] := hD
  have hR := kz_keep hR0 hN hS
  have hE := hE0.kept hAE hS
  refine W.widen (k := 1) (n := 4) (by omega) (by omega) ?_
  refine va_putF (ci := 4) (C := RX4) (T := TX4) (N := 7) hx hb hts inX4 tyX4 tyX4_ok nmX4 hown hK hP hD hS 0 rfl rfl 0 (by decide) (hts _ wm_36) (fun _ h9 => h9) rfl hin rfl (tyX4_ok 0 (by decide)) rfl rfl (Nat.le_of_ble_eq_true rfl) dX4_init_8 (fun H locs hP hD hS => ?_)
  have hP : va_P D vwCl [zO a 4 [.ref q6, .null, .null, .null, .null, .int 0, .int 0], zI cy q6 4 ((fun _ => 0))] H := hP
  have hD : va_D (va_A [zO a 4 [.null, .null, .null, .null, .null, .int 0, .int 0]] s.heap.size) [zO a 4 [.ref q6, .null, .null, .null, .null, .int 0, .int 0], zI cy q6 4 ((fun _ => 0))] := hD
  have hR := kz_keep hR0 hN hS
  have hE := hE0.kept hAE hS
  refine lv_aload_n hx hb dX4_init_11 rfl (lv_at hl 0 rfl) ?_
  refine lv_iconst (v := nI 4) hx hb dX4_init_12 (by decide) ?_
  refine kn_newa (a0 := (4, .inr (.inl (fun _ => 0)))) hx hb 2 (hts _ wm_24) rfl rfl (fun _ h => by cases h) hK hP hD hS hA (fun cA => rfl) (by decide) (by decide) (Nat.le_of_ble_eq_true rfl) (Nat.le_of_ble_eq_true rfl) dX4_init_13 (fun q13 H hP hD hS => ?_)
  have hP : va_P D vwCl [zO a 4 [.ref q6, .null, .null, .null, .null, .int 0, .int 0], zI cy q6 4 ((fun _ => 0)), zJ cy q13 4 ((fun _ => 0))] H := hP
  have hD : va_D (va_A [zO a 4 [.null, .null, .null, .null, .null, .int 0, .int 0]] s.heap.size) [zO a 4 [.ref q6, .null, .null, .null, .null, .int 0, .int 0], zI cy q6 4 ((fun _ => 0)), zJ cy q13 4 ((fun _ => 0))] := hD
  have hR := kz_keep hR0 hN hS
  have hE := hE0.kept hAE hS
  refine W.widen (k := 2) (n := 8) (by omega) (by omega) ?_
  refine va_putF (ci := 4) (C := RX4) (T := TX4) (N := 7) hx hb hts inX4 tyX4 tyX4_ok nmX4 hown hK hP hD hS 0 rfl rfl 1 (by decide) (hts _ wm_37) (fun _ h9 => h9) rfl hin rfl (tyX4_ok 1 (by decide)) rfl rfl (Nat.le_of_ble_eq_true rfl) dX4_init_15 (fun H locs hP hD hS => ?_)
  have hP : va_P D vwCl [zO a 4 [.ref q6, .ref q13, .null, .null, .null, .int 0, .int 0], zI cy q6 4 ((fun _ => 0)), zJ cy q13 4 ((fun _ => 0))] H := hP
  have hD : va_D (va_A [zO a 4 [.null, .null, .null, .null, .null, .int 0, .int 0]] s.heap.size) [zO a 4 [.ref q6, .ref q13, .null, .null, .null, .int 0, .int 0], zI cy q6 4 ((fun _ => 0)), zJ cy q13 4 ((fun _ => 0))] := hD
  have hR := kz_keep hR0 hN hS
  have hE := hE0.kept hAE hS
  refine lv_aload_n hx hb dX4_init_18 rfl (lv_at hl 0 rfl) ?_
  refine lv_iconst (v := nI 4) hx hb dX4_init_19 (by decide) ?_
  refine kn_newa (a0 := (4, .inl (fun _ => 0))) hx hb 1 (hts _ wm_30) rfl rfl (fun _ h => by cases h) hK hP hD hS hA (fun cA => rfl) (by decide) (by decide) (Nat.le_of_ble_eq_true rfl) (Nat.le_of_ble_eq_true rfl) dX4_init_20 (fun q20 H hP hD hS => ?_)
  have hP : va_P D vwCl [zO a 4 [.ref q6, .ref q13, .null, .null, .null, .int 0, .int 0], zI cy q6 4 ((fun _ => 0)), zJ cy q13 4 ((fun _ => 0)), zI cy q20 4 ((fun _ => 0))] H := hP
  have hD : va_D (va_A [zO a 4 [.null, .null, .null, .null, .null, .int 0, .int 0]] s.heap.size) [zO a 4 [.ref q6, .ref q13, .null, .null, .null, .int 0, .int 0], zI cy q6 4 ((fun _ => 0)), zJ cy q13 4 ((fun _ => 0)), zI cy q20 4 ((fun _ => 0))] := hD
  have hR := kz_keep hR0 hN hS
  have hE := hE0.kept hAE hS
  refine W.widen (k := 3) (n := 12) (by omega) (by omega) ?_
  refine va_putF (ci := 4) (C := RX4) (T := TX4) (N := 7) hx hb hts inX4 tyX4 tyX4_ok nmX4 hown hK hP hD hS 0 rfl rfl 2 (by decide) (hts _ wm_38) (fun _ h9 => h9) rfl hin rfl (tyX4_ok 2 (by decide)) rfl rfl (Nat.le_of_ble_eq_true rfl) dX4_init_22 (fun H locs hP hD hS => ?_)
  have hP : va_P D vwCl [zO a 4 [.ref q6, .ref q13, .ref q20, .null, .null, .int 0, .int 0], zI cy q6 4 ((fun _ => 0)), zJ cy q13 4 ((fun _ => 0)), zI cy q20 4 ((fun _ => 0))] H := hP
  have hD : va_D (va_A [zO a 4 [.null, .null, .null, .null, .null, .int 0, .int 0]] s.heap.size) [zO a 4 [.ref q6, .ref q13, .ref q20, .null, .null, .int 0, .int 0], zI cy q6 4 ((fun _ => 0)), zJ cy q13 4 ((fun _ => 0)), zI cy q20 4 ((fun _ => 0))] := hD
  have hR := kz_keep hR0 hN hS
  have hE := hE0.kept hAE hS
  refine lv_aload_n hx hb dX4_init_25 rfl (lv_at hl 0 rfl) ?_
  refine lv_iconst (v := nI 4) hx hb dX4_init_26 (by decide) ?_
  refine kn_newa (a0 := (4, .inl (fun _ => 0))) hx hb 1 (hts _ wm_30) rfl rfl (fun _ h => by cases h) hK hP hD hS hA (fun cA => rfl) (by decide) (by decide) (Nat.le_of_ble_eq_true rfl) (Nat.le_of_ble_eq_true rfl) dX4_init_27 (fun q27 H hP hD hS => ?_)
  have hP : va_P D vwCl [zO a 4 [.ref q6, .ref q13, .ref q20, .null, .null, .int 0, .int 0], zI cy q6 4 ((fun _ => 0)), zJ cy q13 4 ((fun _ => 0)), zI cy q20 4 ((fun _ => 0)), zI cy q27 4 ((fun _ => 0))] H := hP
  have hD : va_D (va_A [zO a 4 [.null, .null, .null, .null, .null, .int 0, .int 0]] s.heap.size) [zO a 4 [.ref q6, .ref q13, .ref q20, .null, .null, .int 0, .int 0], zI cy q6 4 ((fun _ => 0)), zJ cy q13 4 ((fun _ => 0)), zI cy q20 4 ((fun _ => 0)), zI cy q27 4 ((fun _ => 0))] := hD
  have hR := kz_keep hR0 hN hS
  have hE := hE0.kept hAE hS
  refine W.widen (k := 4) (n := 16) (by omega) (by omega) ?_
  refine va_putF (ci := 4) (C := RX4) (T := TX4) (N := 7) hx hb hts inX4 tyX4 tyX4_ok nmX4 hown hK hP hD hS 0 rfl rfl 3 (by decide) (hts _ wm_39) (fun _ h9 => h9) rfl hin rfl (tyX4_ok 3 (by decide)) rfl rfl (Nat.le_of_ble_eq_true rfl) dX4_init_29 (fun H locs hP hD hS => ?_)
  have hP : va_P D vwCl [zO a 4 [.ref q6, .ref q13, .ref q20, .ref q27, .null, .int 0, .int 0], zI cy q6 4 ((fun _ => 0)), zJ cy q13 4 ((fun _ => 0)), zI cy q20 4 ((fun _ => 0)), zI cy q27 4 ((fun _ => 0))] H := hP
  have hD : va_D (va_A [zO a 4 [.null, .null, .null, .null, .null, .int 0, .int 0]] s.heap.size) [zO a 4 [.ref q6, .ref q13, .ref q20, .ref q27, .null, .int 0, .int 0], zI cy q6 4 ((fun _ => 0)), zJ cy q13 4 ((fun _ => 0)), zI cy q20 4 ((fun _ => 0)), zI cy q27 4 ((fun _ => 0))] := hD
  have hR := kz_keep hR0 hN hS
  have hE := hE0.kept hAE hS
  refine lv_aload_n hx hb dX4_init_32 rfl (lv_at hl 0 rfl) ?_
  refine lv_iconst (v := nI 4) hx hb dX4_init_33 (by decide) ?_
  refine kn_newa (a0 := (4, .inl (fun _ => 0))) hx hb 1 (hts _ wm_30) rfl rfl (fun _ h => by cases h) hK hP hD hS hA (fun cA => rfl) (by decide) (by decide) (Nat.le_of_ble_eq_true rfl) (Nat.le_of_ble_eq_true rfl) dX4_init_34 (fun q34 H hP hD hS => ?_)
  have hP : va_P D vwCl [zO a 4 [.ref q6, .ref q13, .ref q20, .ref q27, .null, .int 0, .int 0], zI cy q6 4 ((fun _ => 0)), zJ cy q13 4 ((fun _ => 0)), zI cy q20 4 ((fun _ => 0)), zI cy q27 4 ((fun _ => 0)), zI cy q34 4 ((fun _ => 0))] H := hP
  have hD : va_D (va_A [zO a 4 [.null, .null, .null, .null, .null, .int 0, .int 0]] s.heap.size) [zO a 4 [.ref q6, .ref q13, .ref q20, .ref q27, .null, .int 0, .int 0], zI cy q6 4 ((fun _ => 0)), zJ cy q13 4 ((fun _ => 0)), zI cy q20 4 ((fun _ => 0)), zI cy q27 4 ((fun _ => 0)), zI cy q34 4 ((fun _ => 0))] := hD
  have hR := kz_keep hR0 hN hS
  have hE := hE0.kept hAE hS
  refine W.widen (k := 5) (n := 20) (by omega) (by omega) ?_
  refine va_putF (ci := 4) (C := RX4) (T := TX4) (N := 7) hx hb hts inX4 tyX4 tyX4_ok nmX4 hown hK hP hD hS 0 rfl rfl 4 (by decide) (hts _ wm_40) (fun _ h9 => h9) rfl hin rfl (tyX4_ok 4 (by decide)) rfl rfl (Nat.le_of_ble_eq_true rfl) dX4_init_36 (fun H locs hP hD hS => ?_)
  have hP : va_P D vwCl [zO a 4 [.ref q6, .ref q13, .ref q20, .ref q27, .ref q34, .int 0, .int 0], zI cy q6 4 ((fun _ => 0)), zJ cy q13 4 ((fun _ => 0)), zI cy q20 4 ((fun _ => 0)), zI cy q27 4 ((fun _ => 0)), zI cy q34 4 ((fun _ => 0))] H := hP
  have hD : va_D (va_A [zO a 4 [.null, .null, .null, .null, .null, .int 0, .int 0]] s.heap.size) [zO a 4 [.ref q6, .ref q13, .ref q20, .ref q27, .ref q34, .int 0, .int 0], zI cy q6 4 ((fun _ => 0)), zJ cy q13 4 ((fun _ => 0)), zI cy q20 4 ((fun _ => 0)), zI cy q27 4 ((fun _ => 0)), zI cy q34 4 ((fun _ => 0))] := hD
  have hR := kz_keep hR0 hN hS
  have hE := hE0.kept hAE hS
  exact wr_rv (axL [a, q6, q13, q20, q27, q34]) hx hb hr hlk hS dX4_init_39 (trivial) (hP) (hD)
