/-! calls' words out of WB; array rows over numbers -/
theorem kz_goodA {a : List Cond} {y : MethodName} {cd : ByteArray} {my : Nat} {ry : Option FieldType} (hcode : Cond.code y cd my ry ∈ WB) (ha : ∀ w ∈ a, w ∈ WB) : GoodIn WB (a ++ (.code y cd my ry :: WB)) := fun w hw => (List.mem_append.mp hw).elim (fun h => ⟨ha w h, good_of_word (WB_good _ (ha w h))⟩) (WB_inL hcode w)
theorem kz_m0 : ∀ w ∈ ([] : List Cond), w ∈ WB := fun _ h => absurd h List.not_mem_nil
theorem kz_m1 {x : Cond} {a : List Cond} (h : x ∈ WB) (ha : ∀ w ∈ a, w ∈ WB) : ∀ w ∈ x :: a, w ∈ WB := List.forall_mem_cons.mpr ⟨h, ha⟩
section KR
variable {p : Program} {l : Launch} {e : Env} {R : Room} {s : State} {m : MethodId} {args : Array Value} {below : List Frame} {meth : Method} {c : Code} {H : Heap} {locs : List Loc} {cells slots : Nat} {Q : State → Prop}
variable {cc : ByteArray} {pc : Nat} {ls : Array Slot} {rest : List Value}
variable {own C owner : String} {index maxL mc ms : Nat} {x y : MethodName} {bytes : ByteArray} {ret : Option FieldType} {rm : Room}
theorem kz_cwV (n : Nat) (hts : ∀ w ∈ WB, w.before args s = true) (hcode : Cond.code y bytes maxL ret ∈ WB) (hl : Cond.methodLink own index y ∈ WB) (hi : Cond.instanceMethod y ∈ WB) (hs : Cond.selects C y y ∈ WB) (hini : Cond.initialized y.cls ∈ WB) (hrc : rm.cells = mc) (hrs : rm.slots = ms)
    (hd : y.cls ≠ "java/lang/invoke/MethodHandle" ∧ y.cls ≠ "java/lang/invoke/VarHandle" ∧ (parseMethodDescriptor y.desc).map (fun d => d.parameters.length) = some n) (hR : rm.frames + 1 ≤ R.frames ∧ 8 + (maxL + 11) + rm.locals ≤ R.locals) : CallW R s args own C index y bytes maxL ret (.code y bytes maxL ret :: WB) rm mc ms n :=
  ⟨callB_of n hts (WB_inL hcode) rfl hrc hrs (hts _ hini) (hts _ hl) hd hR, hts _ hi, hts _ hs⟩
theorem kz_cwS (n : Nat) (hts : ∀ w ∈ WB, w.before args s = true) (hcode : Cond.code y bytes maxL ret ∈ WB) (hl : Cond.methodLink own index y ∈ WB) (hi : Cond.static y ∈ WB) (hini : Cond.initialized y.cls ∈ WB) (hrc : rm.cells = mc) (hrs : rm.slots = ms)
    (hd : y.cls ≠ "java/lang/invoke/MethodHandle" ∧ y.cls ≠ "java/lang/invoke/VarHandle" ∧ (parseMethodDescriptor y.desc).map (fun d => d.parameters.length) = some n) (hR : rm.frames + 1 ≤ R.frames ∧ 8 + (maxL + 11) + rm.locals ≤ R.locals) : CallB R s args own index y bytes maxL ret (.code y bytes maxL ret :: WB) rm mc ms n ∧ (Cond.static y).before args s = true :=
  ⟨callB_of n hts (WB_inL hcode) rfl hrc hrs (hts _ hini) (hts _ hl) hd hR, hts _ hi⟩
theorem kz_cwI (n : Nat) (hts : ∀ w ∈ WB, w.before args s = true) (hcode : Cond.code y bytes maxL none ∈ WB) (hl : Cond.methodLink own index y ∈ WB) (hi : Cond.instanceMethod y ∈ WB) (hini : Cond.initialized y.cls ∈ WB) (hnm : y.name = "<init>") (hrc : rm.cells = mc) (hrs : rm.slots = ms)
    (hd : y.cls ≠ "java/lang/invoke/MethodHandle" ∧ y.cls ≠ "java/lang/invoke/VarHandle" ∧ (parseMethodDescriptor y.desc).map (fun d => d.parameters.length) = some n) (hR : rm.frames + 1 ≤ R.frames ∧ 8 + (maxL + 11) + rm.locals ≤ R.locals) : CallB R s args own index y bytes maxL none (.code y bytes maxL none :: WB) rm mc ms n ∧ y.name = "<init>" ∧ (Cond.instanceMethod y).before args s = true :=
  ⟨callB_of n hts (WB_inL hcode) rfl hrc hrs (hts _ hini) (hts _ hl) hd hR, hnm, hts _ hi⟩
theorem kz_cwU (n : Nat) (hts : ∀ w ∈ WB, w.before args s = true) (hcode : Cond.code y bytes maxL ret ∈ WB) (hl : Cond.methodLink own index x ∈ WB) (hsm : Cond.sameMethod x.cls owner x.name x.desc ∈ WB) (hs : Cond.selects C x y ∈ WB) (hi : Cond.instanceMethod y ∈ WB) (hini : Cond.initialized y.cls ∈ WB) (hrc : rm.cells = mc) (hrs : rm.slots = ms)
    (hyx : y = ⟨owner, x.name, x.desc⟩) (hd : owner ≠ "java/lang/invoke/MethodHandle" ∧ owner ≠ "java/lang/invoke/VarHandle" ∧ (parseMethodDescriptor x.desc).map (fun d => d.parameters.length) = some n) (hR : rm.frames + 1 ≤ R.frames ∧ 8 + (maxL + 11) + rm.locals ≤ R.locals) : va_CU R s args own C owner index x y bytes maxL ret (.code y bytes maxL ret :: WB) rm mc ms n :=
  va_cwU n hts (kz_goodA hcode (kz_m1 hl (kz_m1 hsm (kz_m1 hs (kz_m1 hi (kz_m1 hini kz_m0)))))) rfl hrc hrs hyx hd hR
theorem kz_cwO (n : Nat) (hts : ∀ w ∈ WB, w.before args s = true) (hcode : Cond.code y bytes maxL ret ∈ WB) {b0 : ByteArray} {m0 : Nat} {r0 : Option FieldType} (h0 : Cond.code ⟨owner, x.name, x.desc⟩ b0 m0 r0 ∈ WB) (hl : Cond.methodLink own index x ∈ WB) (hsm : Cond.sameMethod x.cls owner x.name x.desc ∈ WB) (hi0 : Cond.instanceMethod ⟨owner, x.name, x.desc⟩ ∈ WB) (hs : Cond.selects C x y ∈ WB) (hi : Cond.instanceMethod y ∈ WB) (hini : Cond.initialized y.cls ∈ WB) (hrc : rm.cells = mc) (hrs : rm.slots = ms)
    (hd : owner ≠ "java/lang/invoke/MethodHandle" ∧ owner ≠ "java/lang/invoke/VarHandle" ∧ (parseMethodDescriptor x.desc).map (fun d => d.parameters.length) = some n) (hR : rm.frames + 1 ≤ R.frames ∧ 8 + (maxL + 11) + rm.locals ≤ R.locals) : va_CU R s args own C owner index x y bytes maxL ret (.code y bytes maxL ret :: WB) rm mc ms n :=
  va_cwO n hts (kz_goodA hcode (kz_m1 hl (kz_m1 hsm (kz_m1 hi0 (kz_m1 hs (kz_m1 hi (kz_m1 hini kz_m0))))))) rfl hrc hrs h0 hd hR
variable {D : va_G} {cy : Nat → ClassId} {ws : va_W} {a n i : Nat} {A : Nat → Prop} {H0 : Heap}
theorem kn_iald {f : Nat → Int32} {v : Int32} (hx : p.tables.exec = Jvm.exec) (hb : c.code = cc) (hK : va_K D vwCl (kz_ty cy) s) (hP : va_P D vwCl ws H) (q0 : Nat) (ha : ws[q0]? = some (zI cy a n f)) (hi : i < n) (hn : n < 2 ^ 31) (hv : f i = v) (hdg : decode cc pc = .ok (.iaload, 1)) (k : W p l e R s m args below meth c H locs cells slots Q (F0 m (pc + 1) ls (.int v :: rest))) : W p l e R s m args below meth c H locs cells slots Q (F0 m pc ls (.int (nI i) :: .ref a :: rest)) := by
  refine va_iald hx hb hK hP q0 1 ha rfl (vp_in_nI hi hn) hdg ?_
  rw [nI_clamp (by omega), hv]
  exact k
theorem kn_bald {f : Nat → Int32} {v : Int32} (hx : p.tables.exec = Jvm.exec) (hb : c.code = cc) (hK : va_K D vwCl (kz_ty cy) s) (hP : va_P D vwCl ws H) (q0 : Nat) (ha : ws[q0]? = some (zB cy a n f)) (hi : i < n) (hn : n < 2 ^ 31) (hv : f i = v) (hdg : decode cc pc = .ok (.baload, 1)) (k : W p l e R s m args below meth c H locs cells slots Q (F0 m (pc + 1) ls (.int v :: rest))) : W p l e R s m args below meth c H locs cells slots Q (F0 m pc ls (.int (nI i) :: .ref a :: rest)) := by
  refine va_bald hx hb hK hP q0 0 ha rfl (vp_in_nI hi hn) hdg ?_
  rw [nI_clamp (by omega), hv]
  exact k
theorem kn_lald {f : Nat → Int64} {v : Int64} (hx : p.tables.exec = Jvm.exec) (hb : c.code = cc) (hK : va_K D vwCl (kz_ty cy) s) (hP : va_P D vwCl ws H) (q0 : Nat) (ha : ws[q0]? = some (zJ cy a n f)) (hi : i < n) (hn : n < 2 ^ 31) (hv : f i = v) (hdg : decode cc pc = .ok (.laload, 1)) (k : W p l e R s m args below meth c H locs cells slots Q (F0 m (pc + 1) ls (.long v :: rest))) : W p l e R s m args below meth c H locs cells slots Q (F0 m pc ls (.int (nI i) :: .ref a :: rest)) := by
  refine va_lald hx hb hK hP q0 2 ha rfl (vp_in_nI hi hn) hdg ?_
  rw [nI_clamp (by omega), hv]
  exact k
theorem kn_qald {f : Nat → Option Nat} {v : Option Nat} (hx : p.tables.exec = Jvm.exec) (hb : c.code = cc) (hK : va_K D vwCl (kz_ty cy) s) (hP : va_P D vwCl ws H) (q0 : Nat) (ha : ws[q0]? = some (zQ cy a n f)) (hi : i < n) (hn : n < 2 ^ 31) (hv : f i = v) (hdg : decode cc pc = .ok (.aaload, 1)) (k : W p l e R s m args below meth c H locs cells slots Q (F0 m (pc + 1) ls (va_rf v :: rest))) : W p l e R s m args below meth c H locs cells slots Q (F0 m pc ls (.int (nI i) :: .ref a :: rest)) := by
  refine va_aldq hx hb hK hP q0 3 ha rfl (vp_in_nI hi hn) hdg ?_
  rw [nI_clamp (by omega), hv]
  exact k
theorem kn_iast {f : Nat → Int32} {v : Int32} (hx : p.tables.exec = Jvm.exec) (hb : c.code = cc) (hK : va_K D vwCl (kz_ty cy) s) (hP : va_P D vwCl ws H) (hD : va_D A ws) (hS : va_S A H0 H locs) (q0 : Nat) (ha : ws[q0]? = some (zI cy a n f)) (hi : i < n) (hn : n < 2 ^ 31) (hdg : decode cc pc = .ok (.iastore, 1)) (k : ∀ (H1 : Heap) (locs1 : List Loc), va_P D vwCl (ws.set q0 (zI cy a n (upd f i v))) H1 → va_D A (ws.set q0 (zI cy a n (upd f i v))) → va_S A H0 H1 locs1 → W p l e R s m args below meth c H1 locs1 cells slots Q (F0 m (pc + 1) ls rest)) : W p l e R s m args below meth c H locs cells slots Q (F0 m pc ls (.int v :: .int (nI i) :: .ref a :: rest)) := by
  refine va_iast hx hb hK hP hD hS q0 1 ha rfl (vp_in_nI hi hn) hdg ?_
  rw [nI_clamp (by omega)]
  exact k
theorem kn_bast {f : Nat → Int32} {v : Int32} (hx : p.tables.exec = Jvm.exec) (hb : c.code = cc) (hK : va_K D vwCl (kz_ty cy) s) (hP : va_P D vwCl ws H) (hD : va_D A ws) (hS : va_S A H0 H locs) (q0 : Nat) (ha : ws[q0]? = some (zB cy a n f)) (hi : i < n) (hn : n < 2 ^ 31) (hv : vp_nar .byte v = v) (hdg : decode cc pc = .ok (.bastore, 1)) (k : ∀ (H1 : Heap) (locs1 : List Loc), va_P D vwCl (ws.set q0 (zB cy a n (upd f i v))) H1 → va_D A (ws.set q0 (zB cy a n (upd f i v))) → va_S A H0 H1 locs1 → W p l e R s m args below meth c H1 locs1 cells slots Q (F0 m (pc + 1) ls rest)) : W p l e R s m args below meth c H locs cells slots Q (F0 m pc ls (.int v :: .int (nI i) :: .ref a :: rest)) := by
  refine va_bast hx hb hK hP hD hS q0 0 ha rfl (vp_in_nI hi hn) hdg ?_
  rw [nI_clamp (by omega), hv]
  exact k
theorem kn_last {f : Nat → Int64} {v : Int64} (hx : p.tables.exec = Jvm.exec) (hb : c.code = cc) (hK : va_K D vwCl (kz_ty cy) s) (hP : va_P D vwCl ws H) (hD : va_D A ws) (hS : va_S A H0 H locs) (q0 : Nat) (ha : ws[q0]? = some (zJ cy a n f)) (hi : i < n) (hn : n < 2 ^ 31) (hdg : decode cc pc = .ok (.lastore, 1)) (k : ∀ (H1 : Heap) (locs1 : List Loc), va_P D vwCl (ws.set q0 (zJ cy a n (vp_updL f i v))) H1 → va_D A (ws.set q0 (zJ cy a n (vp_updL f i v))) → va_S A H0 H1 locs1 → W p l e R s m args below meth c H1 locs1 cells slots Q (F0 m (pc + 1) ls rest)) : W p l e R s m args below meth c H locs cells slots Q (F0 m pc ls (.long v :: .int (nI i) :: .ref a :: rest)) := by
  refine va_last hx hb hK hP hD hS q0 2 ha rfl (vp_in_nI hi hn) hdg ?_
  rw [nI_clamp (by omega)]
  exact k
theorem kn_gald {f : Nat → Option Nat} {v : Option Nat} (hx : p.tables.exec = Jvm.exec) (hb : c.code = cc) (hK : va_K D vwCl (kz_ty cy) s) (hP : va_P D vwCl ws H) (q0 : Nat) (ha : ws[q0]? = some (zG cy a n f)) (hi : i < n) (hn : n < 2 ^ 31) (hv : f i = v) (hdg : decode cc pc = .ok (.aaload, 1)) (k : W p l e R s m args below meth c H locs cells slots Q (F0 m (pc + 1) ls (va_rf v :: rest))) : W p l e R s m args below meth c H locs cells slots Q (F0 m pc ls (.int (nI i) :: .ref a :: rest)) := by
  subst hv
  have hin : vp_in (nI i) n := vp_in_nI hi hn
  have hc : (nI i).toNatClampNeg = i := nI_clamp (by omega)
  exact W.aald (v := va_rf (f i)) (ty := .array .long) hx hb (hP q0 _ ha) ((hK.2 4 _ rfl).1 n (fun j => va_rf (f j))) rfl (fun q => by cases q) (by show ¬ (nI i < 0 ∨ (arrV _ _ _).slots.size ≤ _); rw [arrV_size]; exact hin) (by show (arrV _ _ _).slots[_]? = _; rw [hc, arrV_read _ _ hi]) rfl rfl hdg k
theorem kz_cA {tys : List (ClassId × FieldType)} {cA : ClassId} {ty : FieldType} (hK : va_K D vwCl (kz_ty cy) s) (hK2 : va_K D vwCl (tys ++ [(cA, ty)]) s) (k : Nat) (hk : (kz_ty cy)[k]? = some (cy k, ty)) (ht : ∀ C, ty ≠ .object C) : cA = cy k := by
  have h1 := (hK.2 k _ hk).2
  have h2 := (hK2.2 tys.length (cA, ty) (by rw [List.getElem?_append_right (Nat.le_refl _), Nat.sub_self]; rfl)).2
  have g : ∀ c1 : ClassId, va_RA s c1 ty → s.vm.findClass ("[" ++ ty.toString) = some c1 := by
    intro c1 h
    cases ty with
    | object C => exact absurd rfl (ht C)
    | _ => exact h
  exact Option.some.inj ((g _ h2).symm.trans (g _ h1))
/-- a new row of numbers: its class is the one known -/
theorem kn_newa {atype : ArrayType} (hx : p.tables.exec = Jvm.exec) (hb : c.code = cc) (t : Nat) {ty : FieldType} (harr : (Cond.arrayClass ty).before args s = true) (hty : newarray.typeOf atype = ty) (htt : (kz_ty cy)[t]? = some (cy t, ty)) (hno : ∀ C, ty ≠ .object C) (hK : va_K D vwCl (kz_ty cy) s) (hP : va_P D vwCl ws H) (hD : va_D A ws) (hS : va_S A H0 H locs) (hA : ∀ q, H0.size ≤ q → A q)
    {N : Nat} {a0 : vp_A} (ha : ∀ cA : ClassId, vp_cell cA a0 = arrV cA N (fun _ => defaultValue ty)) (hN : N < 2 ^ 31) (hbytes : N * componentBytes ty ≤ 536870912) (hcells : cells + 1 ≤ R.cells) (hslots : slots + N ≤ R.slots) (hdg : decode cc pc = .ok (.newarray atype, 2))
    (k : ∀ (q : Nat) (H1 : Heap), va_P D vwCl (ws ++ [(q, .inl (cy t, a0))]) H1 → va_D A (ws ++ [(q, .inl (cy t, a0))]) → va_S A H0 H1 locs → W p l e R s m args below meth c H1 locs (cells + 1) (slots + N) Q (F0 m (pc + 2) ls (.ref q :: rest))) : W p l e R s m args below meth c H locs cells slots Q (F0 m pc ls (.int (nI N) :: rest)) := by
  subst hty
  refine va_newa hx hb harr rfl hK hP hD hS hA ha (nI_pos hN) (nI_clamp hN) hbytes hcells hslots hdg (fun q cA H1 hK1 hP1 hD1 hS1 => ?_)
  have e := kz_cA hK hK1 t htt hno
  subst e
  exact k q H1 hP1 hD1 hS1
end KR
