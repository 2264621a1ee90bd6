/-! rows for what is made -/
section KM
variable {p : Program} {l : Launch} {e : Env} {R : Room} {s : State} {m : MethodId} {args : Array Value} {below : List Frame} {meth : Method} {c : Code} {H : Heap} {locs : List Loc} {cells slots : Nat} {Q : State → Prop}
variable {cc : ByteArray} {pc : Nat} {ls : Array Slot} {rest : List Value}
variable {D : va_G} {cy : Nat → ClassId} {ws : va_W} {a n i : Nat} {A : Nat → Prop} {H0 : Heap}
theorem wr_rr {U : Type} {post : U → Prop} {w1 : U → Nat → va_W} {wr : va_W} {sz : Nat} {v : Nat} {cn : String} (u : U) (hx : p.tables.exec = Jvm.exec) (hb : c.code = cc) (hr : meth.sig.returnType = some (.object cn)) (hlk : meth.locks = false) (hS : va_S (va_A wr sz) s.heap H locs) (hdg : decode cc pc = .ok (.areturn, 1)) (h : post u) (hP : va_P D vwCl (w1 u v) H) (hD : va_D (va_A wr sz) (w1 u v)) : W p l e R s m args below meth c H locs cells slots (MQ below (va_Qr post (fun u ra t => va_P D vwCl (w1 u ra) t.heap ∧ va_D (va_A wr sz) (w1 u ra)) (va_A wr sz)) args s cells slots (va_A wr sz)) (F0 m pc ls [.ref v]) :=
  W.aret hx hb hr (Or.inl ⟨cn, rfl⟩) (Or.inr ⟨v, rfl⟩) (fun t ht _ => ⟨⟨u, v, rfl, h, by rw [ht]; exact hP, hD⟩, hS.F ht⟩) hS.2.2 hdg hlk
theorem kz_cAo {tys : List (ClassId × FieldType)} {cA : ClassId} {C : String} (hK : va_K D vwCl (kz_ty cy) s) (hK2 : va_K D vwCl (tys ++ [(cA, .object C)]) s) (k : Nat) (hk : (kz_ty cy)[k]? = some (cy k, .object C)) : cA = cy k := by
  obtain ⟨-, -, -, -, -, h1⟩ := (hK.2 k _ hk).2
  obtain ⟨-, -, -, -, -, h2⟩ := (hK2.2 tys.length (cA, .object C) (by rw [List.getElem?_append_right (Nat.le_refl _), Nat.sub_self]; rfl)).2
  exact Option.some.inj (h2.symm.trans h1)
theorem kn_newq {own : String} {index : Nat} (hx : p.tables.exec = Jvm.exec) (hb : c.code = cc) (hown : s.vm.findClass own = some m.cls) (hcl : (Cond.classLink own index "DryLoaf$Person").before args s = true) (hover : va_AO "DryLoaf$Person" s) (hK : va_K D vwCl (kz_ty cy) s) (hP : va_P D vwCl ws H) (hD : va_D A ws) (hS : va_S A H0 H locs) (hA : ∀ q, H0.size ≤ q → A q)
    {N : Nat} (hN : N < 2 ^ 20) (hcells : cells + 1 ≤ R.cells) (hslots : slots + N ≤ R.slots) (hdg : decode cc pc = .ok (.anewarray index, 3))
    (k : ∀ (q : Nat) (H1 : Heap), va_P D vwCl (ws ++ [zQ cy q N (fun _ => none)]) H1 → va_D A (ws ++ [zQ cy q N (fun _ => none)]) → va_S A H0 H1 locs → W p l e R s m args below meth c H1 locs (cells + 1) (slots + N) Q (F0 m (pc + 3) ls (.ref q :: rest))) : W p l e R s m args below meth c H locs cells slots Q (F0 m pc ls (.int (nI N) :: rest)) := by
  refine va_newq hx hb hown hcl hover hK hP hD hS hA (nI_pos (by omega)) (nI_clamp (by omega)) (by omega) hcells hslots hdg (fun q cA H1 hK1 hP1 hD1 hS1 => ?_)
  have e := kz_cAo hK hK1 3 rfl
  subst e
  exact k q H1 hP1 hD1 hS1
/-- behind a call that only makes: the world, and what is made -/
theorem kz_joinN {w1 : va_W} {H1 : Heap} (hP : va_P D vwCl ws H) (hD : va_D A ws) (hk : ∀ q : Nat, q < H.size → ¬ va_A [] H.size q → H1[q]? = H[q]?) (hF : ∀ q, va_A [] H.size q → A q) (hP1 : va_P D vwCl w1 H1) (hD1 : va_D (va_A [] H.size) w1) : va_P D vwCl (ws ++ w1) H1 ∧ va_D A (ws ++ w1) := by
  have hno : ∀ q : Nat, q < H.size → ¬ va_A [] H.size q := by
    intro q hq h
    rcases h with ⟨k, e, hk⟩ | h
    · simp at hk
    · omega
  refine ⟨(hP.kept (fun k q hq => hk q.1 (hP k q hq).lt (hno q.1 (hP k q hq).lt))).app hP1, hD.app (hD1.weaken (fun k q _ h => hF q.1 h)) (fun i j x y hi hj e => ?_)⟩
  exact hno x.1 (hP i x hi).lt (e ▸ hD1.2 j y hj)
/-- a counted loop in which cells are made -/
theorem kn_loopC {α : Type} (ce sl : Nat → Nat) (K : Nat) (I : Nat → α → Heap → List Loc → Array Slot → Prop) (i0 : Nat) (z0 : α) (h0 : I i0 z0 H locs ls)
    (step : ∀ (i : Nat) (z : α) (H : Heap) (locs : List Loc) (ls : Array Slot), I i z H locs ls → (∀ (z' : α) (H' : Heap) (locs' : List Loc) (ls' : Array Slot), i < K → I (i + 1) z' H' locs' ls' → W p l e R s m args below meth c H' locs' (ce (i + 1)) (sl (i + 1)) Q (F0 m pc ls' rest)) → W p l e R s m args below meth c H locs (ce i) (sl i) Q (F0 m pc ls rest)) : W p l e R s m args below meth c H locs (ce i0) (sl i0) Q (F0 m pc ls rest) := by
  have L : ∀ (n i : Nat) (z : α) (H : Heap) (locs : List Loc) (ls : Array Slot), K - i < n → I i z H locs ls → W p l e R s m args below meth c H locs (ce i) (sl i) Q (F0 m pc ls rest) := by
    intro n
    induction n with
    | zero => intro i z H locs ls h; exact absurd h (Nat.not_lt_zero _)
    | succ n ih =>
      intro i z H locs ls h hI
      exact step i z H locs ls hI (fun z' H' locs' ls' hi hI' => ih (i + 1) z' H' locs' ls' (by omega) hI')
  exact L (K - i0 + 1) i0 z0 H locs ls (by omega) h0
/-- a person may stand among the people -/
theorem pv_any {ev : kz_V} {k : Nat} {fs : List Value} (hK : va_K D vwCl (kz_ty cy) s) (hE : kz_E ev s H) (hk : k < 5) (hP : va_P D vwCl ws H) (q0 : Nat) (he : ws[q0]? = some (zO a (pk k) fs)) : va_Any "DryLoaf$Person" s H a := by
  rcases k_cases hk with rfl | rfl | rfl | rfl | rfl
  · exact va_rAny (ci := 2) hK hP he rfl (fun comp c0 h1 h2 => vb_asgS comp c0 h1 h2)
  · exact va_rAny (ci := 0) hK hP he rfl (fun comp c0 h1 h2 => vb_asgC (hE.2.2.2.2.1 ("DryLoaf$Hardened", "DryLoaf$Person") (by decide)) comp c0 h1 h2)
  · exact va_rAny (ci := 6) hK hP he rfl (fun comp c0 h1 h2 => vb_asgC (hE.2.2.2.2.1 ("DryLoaf$Weeper", "DryLoaf$Person") (by decide)) comp c0 h1 h2)
  · exact va_rAny (ci := 3) hK hP he rfl (fun comp c0 h1 h2 => vb_asgC (hE.2.2.2.2.1 ("DryLoaf$Priest", "DryLoaf$Person") (by decide)) comp c0 h1 h2)
  · exact va_rAny (ci := 5) hK hP he rfl (fun comp c0 h1 h2 => vb_asgC (hE.2.2.2.2.1 ("DryLoaf$Thief", "DryLoaf$Person") (by decide)) comp c0 h1 h2)
theorem kn_qast {f : Nat → Option Nat} {v : Nat} (hx : p.tables.exec = Jvm.exec) (hb : c.code = cc) (hK : va_K D vwCl (kz_ty cy) s) (hP : va_P D vwCl ws H) (hD : va_D A ws) (hS : va_S A H0 H locs) (q0 : Nat) (ha : ws[q0]? = some (zQ cy a n f)) (hr : va_Any "DryLoaf$Person" s H v) (hi : i < n) (hn : n < 2 ^ 31) (hdg : decode cc pc = .ok (.aastore, 1)) (k : ∀ (H1 : Heap) (locs1 : List Loc), va_P D vwCl (ws.set q0 (zQ cy a n (va_up f i (some v)))) H1 → va_D A (ws.set q0 (zQ cy a n (va_up f i (some v)))) → va_S A H0 H1 locs1 → W p l e R s m args below meth c H1 locs1 cells slots Q (F0 m (pc + 1) ls rest)) : W p l e R s m args below meth c H locs cells slots Q (F0 m pc ls (.ref v :: .int (nI i) :: .ref a :: rest)) := by
  refine va_astqM hx hb hK hP hD hS q0 3 ha rfl hr (vp_in_nI hi hn) hdg ?_
  rw [nI_clamp (by omega)]
  exact k
def axL (l : List Nat) : Nat → Nat := fun k => l.getD k 0
theorem axL_rows {l0 : List Nat} {r : Nat → Nat} (hl : l0.length = 17) : (fun i => if i < 4 then some (r i) else none) = (fun i => if i < 4 then some (axL (l0 ++ [r 0, r 1, r 2, r 3]) (17 + i)) else none) := by
  funext i
  by_cases h : i < 4
  · rw [if_pos h, if_pos h]
    unfold axL
    rw [List.getD_eq_getElem?_getD, List.getElem?_append_right (by omega), show 17 + i - l0.length = i by omega]
    rcases (show i = 0 ∨ i = 1 ∨ i = 2 ∨ i = 3 by omega) with rfl | rfl | rfl | rfl <;> rfl
  · rw [if_neg h, if_neg h]
/-- new long[4][4] -/
theorem kn_mna {own : String} {index : Nat} (hx : p.tables.exec = Jvm.exec) (hb : c.code = cc) (hown : s.vm.findClass own = some m.cls) (hcl : (Cond.classLink own index ("[" ++ (FieldType.array .long).toString)).before args s = true) (hover : va_AOA .long s) (harr : (Cond.arrayClass .long).before args s = true) (hK : va_K D vwCl (kz_ty cy) s) (hP : va_P D vwCl ws H) (hD : va_D A ws) (hS : va_S A H0 H locs) (hA : ∀ q, H0.size ≤ q → A q)
    (hcells : cells + 5 ≤ R.cells) (hslots : slots + 20 ≤ R.slots) (hdg : decode cc pc = .ok (.multianewarray index 2, 4))
    (k : ∀ (q : Nat) (r : Nat → Nat) (H1 : Heap), va_P D vwCl (ws ++ [zG cy q 4 (fun i => if i < 4 then some (r i) else none), zJ cy (r 0) 4 (fun _ => 0), zJ cy (r 1) 4 (fun _ => 0), zJ cy (r 2) 4 (fun _ => 0), zJ cy (r 3) 4 (fun _ => 0)]) H1 → va_D A (ws ++ [zG cy q 4 (fun i => if i < 4 then some (r i) else none), zJ cy (r 0) 4 (fun _ => 0), zJ cy (r 1) 4 (fun _ => 0), zJ cy (r 2) 4 (fun _ => 0), zJ cy (r 3) 4 (fun _ => 0)]) → va_S A H0 H1 locs → W p l e R s m args below meth c H1 locs (cells + 5) (slots + 20) Q (F0 m (pc + 4) ls (.ref q :: rest))) : W p l e R s m args below meth c H locs cells slots Q (F0 m pc ls (.int (nI 4) :: .int (nI 4) :: rest)) := by
  have hcy : s.vm.findClass (FieldType.array .long).toString = some (cy 2) := (hK.2 2 _ rfl).2
  refine va_mna (X := ws) (L := []) (f := fun _ => .inr (0, [])) (ty := .long) (cy := cy 2) (N' := 4) (K' := 4) (z := (4, .inr (.inl (fun _ => 0)))) hx hb hown hcl hover harr hcy hK (by rw [show va_pl [] (fun _ => (.inr (0, []) : va_E)) = [] from rfl, List.append_nil]; exact hP) (by rw [show va_pl [] (fun _ => (.inr (0, []) : va_E)) = [] from rfl, List.append_nil]; exact hD) hS hA (by decide) (by decide) rfl rfl (by decide) (by decide) (by decide) rfl rfl (by omega) (by omega) (fun c => rfl) hdg (fun q r cA H1 hinj hnl hK1 hP1 hD1 hS1 => ?_)
  have e := kz_cA hK hK1 4 rfl (fun C h => by cases h)
  subst e
  have er : ∀ i, i < 4 → r i ∈ (List.range 4).map r := fun i hi => List.mem_map.mpr ⟨i, List.mem_range.mpr hi, rfl⟩
  have ew : (ws ++ [(q, .inl (cy 4, 4, .inr (.inr (.inr (.inr (fun i => if i < 4 then some (r i) else none))))))]) ++ va_pl ([] ++ (List.range 4).map r) (vr_up (fun _ => .inr (0, [])) ((List.range 4).map r) (.inl (cy 2, 4, .inr (.inl (fun _ => 0))))) = ws ++ [zG cy q 4 (fun i => if i < 4 then some (r i) else none), zJ cy (r 0) 4 (fun _ => 0), zJ cy (r 1) 4 (fun _ => 0), zJ cy (r 2) 4 (fun _ => 0), zJ cy (r 3) 4 (fun _ => 0)] := by
    rw [List.append_assoc]
    congr 1
    have e1 := vr_up_in (f := fun _ => (.inr (0, []) : va_E)) (v := .inl (cy 2, 4, .inr (.inl (fun _ => 0)))) (er 0 (by decide))
    have e2 := vr_up_in (f := fun _ => (.inr (0, []) : va_E)) (v := .inl (cy 2, 4, .inr (.inl (fun _ => 0)))) (er 1 (by decide))
    have e3 := vr_up_in (f := fun _ => (.inr (0, []) : va_E)) (v := .inl (cy 2, 4, .inr (.inl (fun _ => 0)))) (er 2 (by decide))
    have e4 := vr_up_in (f := fun _ => (.inr (0, []) : va_E)) (v := .inl (cy 2, 4, .inr (.inl (fun _ => 0)))) (er 3 (by decide))
    show (q, _) :: (r 0, _) :: (r 1, _) :: (r 2, _) :: (r 3, _) :: [] = _
    rw [e1, e2, e3, e4]
  rw [ew] at hP1 hD1
  exact k q r H1 hP1 hD1 hS1
end KM
