/-! THE BASE: the arrays' classes, cells in short, contracts that read alone (ro_) and that write (wr_), rows over numbers (kn_) -/
abbrev kz_ty (cy : Nat → ClassId) : List (ClassId × FieldType) := [(cy 0, .byte), (cy 1, .int), (cy 2, .long), (cy 3, .object "DryLoaf$Person"), (cy 4, .array .long)]
abbrev zB (cy : Nat → ClassId) (a n : Nat) (f : Nat → Int32) : Nat × va_E := (a, .inl (cy 0, n, .inl f))
abbrev zI (cy : Nat → ClassId) (a n : Nat) (f : Nat → Int32) : Nat × va_E := (a, .inl (cy 1, n, .inl f))
abbrev zJ (cy : Nat → ClassId) (a n : Nat) (f : Nat → Int64) : Nat × va_E := (a, .inl (cy 2, n, .inr (.inl f)))
abbrev zQ (cy : Nat → ClassId) (a n : Nat) (f : Nat → Option Nat) : Nat × va_E := (a, .inl (cy 3, n, .inr (.inr (.inr (.inr f)))))
abbrev zG (cy : Nat → ClassId) (a n : Nat) (f : Nat → Option Nat) : Nat × va_E := (a, .inl (cy 4, n, .inr (.inr (.inr (.inr f)))))
abbrev zO (a k : Nat) (fs : List Value) : Nat × va_E := (a, .inr (k, fs))
/-- a boolean as an int -/
def bI (b : Bool) : Int32 := if b then nI 1 else nI 0
theorem bI_t : bI true = nI 1 := rfl
theorem bI_f : bI false = nI 0 := rfl
theorem bI_nar (b : Bool) : narrow .boolean (.int (bI b)) = .int (bI b) := by cases b <;> rfl
theorem bI_fit (b : Bool) : fits .boolean (.int (bI b)) = true := by cases b <;> rfl
theorem bI_eq0 (b : Bool) : bI b = 0 ↔ b = false := by cases b <;> simp [bI, nI] <;> decide
theorem bI_of (c : Prop) [Decidable c] : bI (decide c) = if c then nI 1 else nI 0 := by by_cases h : c <;> simp [bI, h]
/-- which place an int names, of n -/
def ix (n : Nat) (x : Int32) : Option Nat := if 0 ≤ x.toInt ∧ x.toInt < n then some x.toInt.toNat else none
theorem ix_nI {n j : Nat} (h : j < n) (hn : n < 2 ^ 31) : ix n (nI j) = some j := by
  unfold ix
  rw [nI_toInt (by omega), if_pos ⟨by omega, by omega⟩]
  rfl
theorem ix_some {n j : Nat} {x : Int32} (h : ix n x = some j) : j < n ∧ x = nI j := by
  unfold ix at h
  split at h
  · rename_i hh
    have e := Option.some.inj h
    refine ⟨by omega, ?_⟩
    apply Int32.toInt_inj.mp
    have hb := Int32.toInt_lt x
    rw [nI_toInt (by omega)]
    omega
  · cases h
theorem ix_none {n : Nat} {x : Int32} (h : ix n x = none) : x.toInt < 0 ∨ (n : Int) ≤ x.toInt := by
  unfold ix at h
  split at h
  · cases h
  · rename_i hh
    omega
theorem ix_none_of {n : Nat} {x : Int32} (h : x.toInt < 0 ∨ (n : Int) ≤ x.toInt) : ix n x = none := by
  unfold ix
  rw [if_neg]
  omega
/-! what lies below the bound of all worlds: the text of the kinds, a static, and what is no subclass of what -/
def kz_pairs : List (String × String) := [("DryLoaf$Person", "DryLoaf$Hardened"), ("DryLoaf$Person", "DryLoaf$Weeper"), ("DryLoaf$Person", "DryLoaf$Priest"), ("DryLoaf$Person", "DryLoaf$Thief"), ("DryLoaf$Hardened", "DryLoaf$Weeper"), ("DryLoaf$Hardened", "DryLoaf$Priest"), ("DryLoaf$Hardened", "DryLoaf$Thief"), ("DryLoaf$Weeper", "DryLoaf$Hardened"), ("DryLoaf$Weeper", "DryLoaf$Priest"), ("DryLoaf$Weeper", "DryLoaf$Thief"), ("DryLoaf$Priest", "DryLoaf$Hardened"), ("DryLoaf$Priest", "DryLoaf$Weeper"), ("DryLoaf$Priest", "DryLoaf$Thief"), ("DryLoaf$Thief", "DryLoaf$Weeper"), ("DryLoaf$Thief", "DryLoaf$Priest")]
abbrev kz_V : Type := Nat × Nat × Nat
def kz_E (ev : kz_V) (U : State) (H : Heap) : Prop := (∀ pr ∈ kz_pairs, va_Nc pr.1 pr.2 U) ∧ vk_R "DryLoaf$Page" 67 "phwrt" ev.2.1 U ∧ vk_S 1 [5] [[112, 104, 119, 114, 116]] (fun _ => ev.2.1) (fun _ => ev.2.2) (fun q => ev.1 ≤ q) U H ∧ va_Z "java/lang/String" "COMPACT_STRINGS" "Z" (.int 1) (fun q => ev.1 ≤ q) U H
theorem kz_E.call {ev : kz_V} {s U : State} {H : Heap} (h : kz_E ev s H) (hW : s.WarmedH U.vm) (hU : U.heap = H) : kz_E ev U U.heap := by
  rw [hU]
  exact ⟨fun pr hp => va_Nc.moved hW.alike (h.1 pr hp), vk_R.warm hW h.2.1, vk_S.moved hW.alike h.2.2.1, va_Z.moved hW.alike h.2.2.2⟩
theorem kz_E.kept {ev : kz_V} {s : State} {H0 H : Heap} {A : Nat → Prop} {locs : List Loc} (h : kz_E ev s H0) (hA : ∀ q, A q → ev.1 ≤ q) (hS : va_S A H0 H locs) : kz_E ev s H :=
  ⟨h.1, h.2.1, h.2.2.1.kept (fun a h1 h2 => hS.2.1 a h1 (fun q => h2 (hA a q))), h.2.2.2.kept (fun a h1 h2 => hS.2.1 a h1 (fun q => h2 (hA a q)))⟩
theorem kz_E.blind {ev : kz_V} {U : State} (h : kz_E ev U U.heap) (g : JFrame) (mk : MethodId) (a : Array Value) : kz_E ev (U.calling g mk a) (U.calling g mk a).heap :=
  ⟨fun pr hp => va_Nc.moved (u := U) (U := U.calling g mk a) (Vm.Alike.refl U.vm) (h.1 pr hp), vk_R.same (u := U) (U := U.calling g mk a) rfl h.2.1, vk_S.moved (u := U) (U := U.calling g mk a) (Vm.Alike.refl U.vm) h.2.2.1, va_Z.moved (u := U) (U := U.calling g mk a) (Vm.Alike.refl U.vm) h.2.2.2⟩
/-! contracts that read alone -/
def ro_Pc (D : va_G) (cy : Nat → ClassId) (ev : kz_V) (av : List Value) (rd : va_W) : Array Value → State → Prop := va_Pc av (fun U => va_P D vwCl rd U.heap ∧ va_K D vwCl (kz_ty cy) U ∧ kz_E ev U U.heap)
theorem ro_blind {D : va_G} {cy : Nat → ClassId} {ev : kz_V} {av : List Value} {rd : va_W} : FrameBlind (ro_Pc D cy ev av rd) := fun a U g mk q => ⟨q.1, q.2.1, va_K.moved (u := U) (U := U.calling g mk a) (Vm.Alike.refl U.vm) q.2.2.1, q.2.2.2.blind g mk a⟩
/-! contracts that write: the cells wr, reading rd beside them -/
def wr_Pc (D : va_G) (cy : Nat → ClassId) (ev : kz_V) (av : List Value) (wr rd : va_W) (sz : Nat) : Array Value → State → Prop := va_Pc av (fun U => U.heap.size = sz ∧ va_P D vwCl wr U.heap ∧ va_P D vwCl rd U.heap ∧ va_K D vwCl (kz_ty cy) U ∧ va_D (fun q => ev.1 ≤ q) (wr ++ rd) ∧ kz_E ev U U.heap ∧ ev.1 ≤ sz)
theorem wr_blind {D : va_G} {cy : Nat → ClassId} {ev : kz_V} {av : List Value} {wr rd : va_W} {sz : Nat} : FrameBlind (wr_Pc D cy ev av wr rd sz) := fun a U g mk q => ⟨q.1, q.2.1, q.2.2.1, q.2.2.2.1, va_K.moved (u := U) (U := U.calling g mk a) (Vm.Alike.refl U.vm) q.2.2.2.2.1, q.2.2.2.2.2.1, q.2.2.2.2.2.2.1.blind g mk a, q.2.2.2.2.2.2.2⟩
abbrev wr_B (D : va_G) (wr : va_W) (sz : Nat) {S : Type} (w1 : S → va_W) : S → State → Prop := fun u t => va_P D vwCl (w1 u) t.heap ∧ va_D (va_A wr sz) (w1 u)
theorem va_P.left {D : va_G} {cl : List vw_C} {a b : va_W} {H : Heap} (h : va_P D cl (a ++ b) H) : va_P D cl a H := fun k q hk => h k q (by rw [List.getElem?_append_left (List.getElem?_eq_some_iff.mp hk).1]; exact hk)
theorem va_P.right {D : va_G} {cl : List vw_C} {a b : va_W} {H : Heap} (h : va_P D cl (a ++ b) H) : va_P D cl b H := fun k q hk => h (a.length + k) q (by rw [List.getElem?_append_right (by omega)]; rw [show a.length + k - a.length = k by omega]; exact hk)
theorem va_D.left {A : Nat → Prop} {a b : va_W} (h : va_D A (a ++ b)) : va_D A a := by
  refine ⟨fun i j p q hi hj e => h.1 i j p q ?_ ?_ e, fun k q hk => h.2 k q ?_⟩
  · rw [List.getElem?_append_left (List.getElem?_eq_some_iff.mp hi).1]; exact hi
  · rw [List.getElem?_append_left (List.getElem?_eq_some_iff.mp hj).1]; exact hj
  · rw [List.getElem?_append_left (List.getElem?_eq_some_iff.mp hk).1]; exact hk
theorem va_D.right {A : Nat → Prop} {a b : va_W} (h : va_D A (a ++ b)) : va_D A b := by
  have e : ∀ (k : Nat) (q : Nat × va_E), b[k]? = some q → (a ++ b)[a.length + k]? = some q := fun k q hk => by
    rw [List.getElem?_append_right (by omega), show a.length + k - a.length = k by omega]
    exact hk
  refine ⟨fun i j p q hi hj eq => ?_, fun k q hk => h.2 _ q (e k q hk)⟩
  have := h.1 _ _ p q (e i p hi) (e j q hj) eq
  omega
theorem va_D.apart {A : Nat → Prop} {a b : va_W} (h : va_D A (a ++ b)) {i j : Nat} {p q : Nat × va_E} (hi : a[i]? = some p) (hj : b[j]? = some q) : p.1 ≠ q.1 := fun eq => by
  have h1 : i < a.length := (List.getElem?_eq_some_iff.mp hi).1
  have := h.1 i (a.length + j) p q (by rw [List.getElem?_append_left h1]; exact hi) (by rw [List.getElem?_append_right (by omega), show a.length + j - a.length = j by omega]; exact hj) eq
  omega
/-- what is beside a method's own cells isn't free in it -/
theorem kz_out {D : va_G} {cl : List vw_C} {B : Nat → Prop} {wr rd : va_W} {H : Heap} (hD : va_D B (wr ++ rd)) (hR : va_P D cl rd H) : ∀ (k : Nat) (q : Nat × va_E), rd[k]? = some q → ¬ va_A wr H.size q.1 := by
  intro k q hk h
  rcases h with ⟨i, e, hi⟩ | h
  · exact hD.apart hi hk rfl
  · have := (hR k q hk).lt
    omega
/-- a method's own cells lie above the bound -/
theorem kz_up {ev : kz_V} {wr rd : va_W} {sz : Nat} (hD : va_D (fun q => ev.1 ≤ q) (wr ++ rd)) (hs : ev.1 ≤ sz) : ∀ q, va_A wr sz q → ev.1 ≤ q := by
  intro q h
  rcases h with ⟨k, e, hk⟩ | h
  · exact hD.left.2 k _ hk
  · exact Nat.le_trans hs h
theorem kz_DD {ev : kz_V} {A : Nat → Prop} {w rd : va_W} (hD : va_D A w) (hR : va_D (fun q => ev.1 ≤ q) rd) (hN : ∀ (k : Nat) (q : Nat × va_E), rd[k]? = some q → ¬ A q.1) (hA : ∀ q, A q → ev.1 ≤ q) : va_D (fun q => ev.1 ≤ q) (w ++ rd) :=
  (hD.weaken (fun k q _ h => hA q.1 h)).app hR (fun i j x y hi hj e => hN j y hj (e ▸ hD.2 i x hi))
theorem kz_D0 {ev : kz_V} {A : Nat → Prop} {w : va_W} (hD : va_D A w) (hA : ∀ q, A q → ev.1 ≤ q) : va_D (fun q => ev.1 ≤ q) (w ++ []) := by
  rw [List.append_nil]
  exact hD.weaken (fun k q _ h => hA q.1 h)
theorem kz_P0 {D : va_G} {cl : List vw_C} {H : Heap} : va_P D cl [] H := fun k q h => by simp at h
theorem kz_keep {D : va_G} {cl : List vw_C} {A : Nat → Prop} {rd : va_W} {H0 H : Heap} {locs : List Loc} (h : va_P D cl rd H0) (hN : ∀ (k : Nat) (q : Nat × va_E), rd[k]? = some q → ¬ A q.1) (hS : va_S A H0 H locs) : va_P D cl rd H := h.kept (fun k q hk => hS.2.1 q.1 ((h k q hk).lt) (hN k q hk))
/-- an object as a receiver -/
theorem kz_recv {s : State} {H : Heap} {D : va_G} {cl : List vw_C} {a ci : Nat} (q0 : Nat) {fs : List Value} {ws : va_W} {tys : List (ClassId × FieldType)} {C : String} {T : u_T} {N : Nat} (hK : va_K D cl tys s) (hP : va_P D cl ws H) (he : ws[q0]? = some (a, .inr (ci, fs))) (hc : cl[ci]? = some (C, T, N)) : ∃ cell : Cell, H[a]? = some cell ∧ cell.vm.isStatics = false ∧ s.vm.findClass C = some cell.cls := va_recv hK hP hc he
section KN
variable {p : Program} {l : Launch} {e : Env} {R : Room} {s : State} {m : MethodId} {args : Array Value} {below : List Frame} {meth : Method} {c : Code} {H : Heap} {locs : List Loc} {cells slots : Nat} {Q : State → Prop}
variable {cc : ByteArray} {pc : Nat} {ls : Array Slot} {rest : List Value}
/-! numbers -/
theorem kn_iadd (hx : p.tables.exec = Jvm.exec) (hb : c.code = cc) {a b : Nat} (hdg : decode cc pc = .ok (.iadd, 1)) (k : W p l e R s m args below meth c H locs cells slots Q (F0 m (pc + 1) ls (.int (nI (a + b)) :: rest))) : W p l e R s m args below meth c H locs cells slots Q (F0 m pc ls (.int (nI b) :: .int (nI a) :: rest)) := by
  refine lv_iadd hx hb hdg ?_
  rw [nI_add]
  exact k
theorem kn_isub (hx : p.tables.exec = Jvm.exec) (hb : c.code = cc) {a b : Nat} (hdg : decode cc pc = .ok (.isub, 1)) (h : b ≤ a) (k : W p l e R s m args below meth c H locs cells slots Q (F0 m (pc + 1) ls (.int (nI (a - b)) :: rest))) : W p l e R s m args below meth c H locs cells slots Q (F0 m pc ls (.int (nI b) :: .int (nI a) :: rest)) := by
  refine lv_isub hx hb hdg ?_
  rw [pk_sub h]
  exact k
theorem kn_imul (hx : p.tables.exec = Jvm.exec) (hb : c.code = cc) {a b : Nat} (hdg : decode cc pc = .ok (.imul, 1)) (k : W p l e R s m args below meth c H locs cells slots Q (F0 m (pc + 1) ls (.int (nI (a * b)) :: rest))) : W p l e R s m args below meth c H locs cells slots Q (F0 m pc ls (.int (nI b) :: .int (nI a) :: rest)) := by
  refine lv_imul hx hb hdg ?_
  rw [pk_mul]
  exact k
theorem kn_idiv (hx : p.tables.exec = Jvm.exec) (hb : c.code = cc) {a b : Nat} (hdg : decode cc pc = .ok (.idiv, 1)) (ha : a < 2 ^ 31) (h0 : 0 < b) (hb2 : b < 2 ^ 31) (k : W p l e R s m args below meth c H locs cells slots Q (F0 m (pc + 1) ls (.int (nI (a / b)) :: rest))) : W p l e R s m args below meth c H locs cells slots Q (F0 m pc ls (.int (nI b) :: .int (nI a) :: rest)) := by
  refine lv_idiv hx hb hdg (nI_ne0 h0 hb2) ?_
  rw [pk_div ha h0 hb2]
  exact k
theorem kn_irem (hx : p.tables.exec = Jvm.exec) (hb : c.code = cc) {a b : Nat} (hdg : decode cc pc = .ok (.irem, 1)) (ha : a < 2 ^ 31) (h0 : 0 < b) (hb2 : b < 2 ^ 31) (k : W p l e R s m args below meth c H locs cells slots Q (F0 m (pc + 1) ls (.int (nI (a % b)) :: rest))) : W p l e R s m args below meth c H locs cells slots Q (F0 m pc ls (.int (nI b) :: .int (nI a) :: rest)) := by
  refine lv_irem hx hb hdg (nI_ne0 h0 hb2) ?_
  rw [pk_rem ha h0 hb2]
  exact k
theorem kn_iinc (hx : p.tables.exec = Jvm.exec) (hb : c.code = cc) {i nL k x d : Nat} {lv lv' : List (Nat × Value)} (hdg : decode cc pc = .ok (.iinc i (d : Int), 3)) (h : lv_has ls nL lv) (hk : lv[k]? = some (i, .int (nI x))) (hn : i < nL) (hl : (i, Value.int (nI (x + d))) :: lv.filter (fun q => !(q.1 == i) && !(q.1 + 1 == i && q.2.category == 2)) = lv')
    (kk : ∀ ls' : Array Slot, lv_has ls' nL lv' → W p l e R s m args below meth c H locs cells slots Q (F0 m (pc + 3) ls' rest)) : W p l e R s m args below meth c H locs cells slots Q (F0 m pc ls rest) := by
  refine lv_iinc (v := nI (x + d)) (lv' := lv') hx hb hdg h hk ?_ hn hl kk
  rw [← nI_add]
  rfl
theorem kn_ladd (hx : p.tables.exec = Jvm.exec) (hb : c.code = cc) {a b : Nat} (hdg : decode cc pc = .ok (.ladd, 1)) (k : W p l e R s m args below meth c H locs cells slots Q (F0 m (pc + 1) ls (.long (lN (a + b)) :: rest))) : W p l e R s m args below meth c H locs cells slots Q (F0 m pc ls (.long (lN b) :: .long (lN a) :: rest)) := by
  refine lv_ladd hx hb hdg ?_
  rw [lN_add]
  exact k
theorem kn_lmul (hx : p.tables.exec = Jvm.exec) (hb : c.code = cc) {a b : Nat} (hdg : decode cc pc = .ok (.lmul, 1)) (k : W p l e R s m args below meth c H locs cells slots Q (F0 m (pc + 1) ls (.long (lN (a * b)) :: rest))) : W p l e R s m args below meth c H locs cells slots Q (F0 m pc ls (.long (lN b) :: .long (lN a) :: rest)) := by
  refine lv_lmul hx hb hdg ?_
  rw [lN_mul]
  exact k
theorem kn_lne {b : Nat} (h0 : 0 < b) (h : b < 2 ^ 63) : ¬ lN b = 0 := fun hh => by
  have := (pk_lEQ h (by decide : (0 : Nat) < 2 ^ 63)).mp (hh.trans rfl)
  omega
theorem kn_ldiv (hx : p.tables.exec = Jvm.exec) (hb : c.code = cc) {a b : Nat} (hdg : decode cc pc = .ok (.ldiv, 1)) (ha : a < 2 ^ 63) (h0 : 0 < b) (hb2 : b < 2 ^ 63) (k : W p l e R s m args below meth c H locs cells slots Q (F0 m (pc + 1) ls (.long (lN (a / b)) :: rest))) : W p l e R s m args below meth c H locs cells slots Q (F0 m pc ls (.long (lN b) :: .long (lN a) :: rest)) := by
  refine lv_ldiv hx hb hdg (kn_lne h0 hb2) ?_
  rw [pk_lDiv ha h0 hb2]
  exact k
theorem kn_lrem (hx : p.tables.exec = Jvm.exec) (hb : c.code = cc) {a b : Nat} (hdg : decode cc pc = .ok (.lrem, 1)) (ha : a < 2 ^ 63) (h0 : 0 < b) (hb2 : b < 2 ^ 63) (k : W p l e R s m args below meth c H locs cells slots Q (F0 m (pc + 1) ls (.long (lN (a % b)) :: rest))) : W p l e R s m args below meth c H locs cells slots Q (F0 m pc ls (.long (lN b) :: .long (lN a) :: rest)) := by
  refine lv_lrem hx hb hdg (kn_lne h0 hb2) ?_
  rw [pk_lRem ha h0 hb2]
  exact k
theorem kn_i2l (hx : p.tables.exec = Jvm.exec) (hb : c.code = cc) {a : Nat} (hdg : decode cc pc = .ok (.i2l, 1)) (h : a < 2 ^ 31) (k : W p l e R s m args below meth c H locs cells slots Q (F0 m (pc + 1) ls (.long (lN a) :: rest))) : W p l e R s m args below meth c H locs cells slots Q (F0 m pc ls (.int (nI a) :: rest)) := lv_i2l (v := lN a) hx hb hdg (nI_l h) k
theorem kn_l2i (hx : p.tables.exec = Jvm.exec) (hb : c.code = cc) {a : Nat} (hdg : decode cc pc = .ok (.l2i, 1)) (k : W p l e R s m args below meth c H locs cells slots Q (F0 m (pc + 1) ls (.int (nI a) :: rest))) : W p l e R s m args below meth c H locs cells slots Q (F0 m pc ls (.long (lN a) :: rest)) := lv_l2i (v := nI a) hx hb hdg (lN_i a) k
-- ===CMP
theorem kt_icmp_eq (hx : p.tables.exec = Jvm.exec) (hb : c.code = cc) {x y : Int32} {X Y : Int} {off : Int} {tgt : Nat} (hdg : decode cc pc = .ok (.if_icmp .eq off, 3)) (ht : (pc : Int) + off = (tgt : Int)) (h1 : x.toInt = X) (h2 : y.toInt = Y) (kt : X = Y → W p l e R s m args below meth c H locs cells slots Q (F0 m tgt ls rest)) (kf : X ≠ Y → W p l e R s m args below meth c H locs cells slots Q (F0 m (pc + 3) ls rest)) : W p l e R s m args below meth c H locs cells slots Q (F0 m pc ls (.int y :: .int x :: rest)) :=
  lv_icmp_eq hx hb hdg ht (fun h => kt (by simp only [Int32.lt_iff_toInt_lt, Int32.le_iff_toInt_le, ← Int32.toInt_inj] at h; omega)) (fun h => kf (by simp only [Int32.lt_iff_toInt_lt, Int32.le_iff_toInt_le, ← Int32.toInt_inj] at h; omega))
theorem kt_if_eq (hx : p.tables.exec = Jvm.exec) (hb : c.code = cc) {x : Int32} {X : Int} {off : Int} {tgt : Nat} (hdg : decode cc pc = .ok (.ifCond .eq off, 3)) (ht : (pc : Int) + off = (tgt : Int)) (h1 : x.toInt = X) (kt : X = 0 → W p l e R s m args below meth c H locs cells slots Q (F0 m tgt ls rest)) (kf : X ≠ 0 → W p l e R s m args below meth c H locs cells slots Q (F0 m (pc + 3) ls rest)) : W p l e R s m args below meth c H locs cells slots Q (F0 m pc ls (.int x :: rest)) :=
  lv_if_eq hx hb hdg ht (fun h => kt (by have h0 : (0 : Int32).toInt = 0 := rfl; simp only [Int32.lt_iff_toInt_lt, Int32.le_iff_toInt_le, ← Int32.toInt_inj] at h; omega)) (fun h => kf (by have h0 : (0 : Int32).toInt = 0 := rfl; simp only [Int32.lt_iff_toInt_lt, Int32.le_iff_toInt_le, ← Int32.toInt_inj] at h; omega))
theorem kt_lcmp_eq (hx : p.tables.exec = Jvm.exec) (hb : c.code = cc) {x y : Int64} {X Y : Int} {off : Int} {tgt : Nat} (hdg0 : decode cc pc = .ok (.lcmp, 1)) (hdg : decode cc (pc + 1) = .ok (.ifCond .eq off, 3)) (ht : ((pc + 1 : Nat) : Int) + off = (tgt : Int)) (h1 : x.toInt = X) (h2 : y.toInt = Y) (kt : X = Y → W p l e R s m args below meth c H locs cells slots Q (F0 m tgt ls rest)) (kf : X ≠ Y → W p l e R s m args below meth c H locs cells slots Q (F0 m (pc + 4) ls rest)) : W p l e R s m args below meth c H locs cells slots Q (F0 m pc ls (.long y :: .long x :: rest)) :=
  W.lcmp hx hb hdg0 (lv_if_eq hx hb hdg ht (fun h => kt (by simp only [lg_cmp_eq, Int64.lt_iff_toInt_lt, Int64.le_iff_toInt_le, ← Int64.toInt_inj] at h; omega)) (fun h => kf (by simp only [lg_cmp_eq, Int64.lt_iff_toInt_lt, Int64.le_iff_toInt_le, ← Int64.toInt_inj] at h; omega)))
theorem kt_icmp_ne (hx : p.tables.exec = Jvm.exec) (hb : c.code = cc) {x y : Int32} {X Y : Int} {off : Int} {tgt : Nat} (hdg : decode cc pc = .ok (.if_icmp .ne off, 3)) (ht : (pc : Int) + off = (tgt : Int)) (h1 : x.toInt = X) (h2 : y.toInt = Y) (kt : X ≠ Y → W p l e R s m args below meth c H locs cells slots Q (F0 m tgt ls rest)) (kf : X = Y → W p l e R s m args below meth c H locs cells slots Q (F0 m (pc + 3) ls rest)) : W p l e R s m args below meth c H locs cells slots Q (F0 m pc ls (.int y :: .int x :: rest)) :=
  lv_icmp_ne hx hb hdg ht (fun h => kt (by simp only [Int32.lt_iff_toInt_lt, Int32.le_iff_toInt_le, ← Int32.toInt_inj] at h; omega)) (fun h => kf (by simp only [Int32.lt_iff_toInt_lt, Int32.le_iff_toInt_le, ← Int32.toInt_inj] at h; omega))
theorem kt_if_ne (hx : p.tables.exec = Jvm.exec) (hb : c.code = cc) {x : Int32} {X : Int} {off : Int} {tgt : Nat} (hdg : decode cc pc = .ok (.ifCond .ne off, 3)) (ht : (pc : Int) + off = (tgt : Int)) (h1 : x.toInt = X) (kt : X ≠ 0 → W p l e R s m args below meth c H locs cells slots Q (F0 m tgt ls rest)) (kf : X = 0 → W p l e R s m args below meth c H locs cells slots Q (F0 m (pc + 3) ls rest)) : W p l e R s m args below meth c H locs cells slots Q (F0 m pc ls (.int x :: rest)) :=
  lv_if_ne hx hb hdg ht (fun h => kt (by have h0 : (0 : Int32).toInt = 0 := rfl; simp only [Int32.lt_iff_toInt_lt, Int32.le_iff_toInt_le, ← Int32.toInt_inj] at h; omega)) (fun h => kf (by have h0 : (0 : Int32).toInt = 0 := rfl; simp only [Int32.lt_iff_toInt_lt, Int32.le_iff_toInt_le, ← Int32.toInt_inj] at h; omega))
theorem kt_lcmp_ne (hx : p.tables.exec = Jvm.exec) (hb : c.code = cc) {x y : Int64} {X Y : Int} {off : Int} {tgt : Nat} (hdg0 : decode cc pc = .ok (.lcmp, 1)) (hdg : decode cc (pc + 1) = .ok (.ifCond .ne off, 3)) (ht : ((pc + 1 : Nat) : Int) + off = (tgt : Int)) (h1 : x.toInt = X) (h2 : y.toInt = Y) (kt : X ≠ Y → W p l e R s m args below meth c H locs cells slots Q (F0 m tgt ls rest)) (kf : X = Y → W p l e R s m args below meth c H locs cells slots Q (F0 m (pc + 4) ls rest)) : W p l e R s m args below meth c H locs cells slots Q (F0 m pc ls (.long y :: .long x :: rest)) :=
  W.lcmp hx hb hdg0 (lv_if_ne hx hb hdg ht (fun h => kt (by simp only [lg_cmp_eq, Int64.lt_iff_toInt_lt, Int64.le_iff_toInt_le, ← Int64.toInt_inj] at h; omega)) (fun h => kf (by simp only [lg_cmp_eq, Int64.lt_iff_toInt_lt, Int64.le_iff_toInt_le, ← Int64.toInt_inj] at h; omega)))
theorem kt_icmp_lt (hx : p.tables.exec = Jvm.exec) (hb : c.code = cc) {x y : Int32} {X Y : Int} {off : Int} {tgt : Nat} (hdg : decode cc pc = .ok (.if_icmp .lt off, 3)) (ht : (pc : Int) + off = (tgt : Int)) (h1 : x.toInt = X) (h2 : y.toInt = Y) (kt : X < Y → W p l e R s m args below meth c H locs cells slots Q (F0 m tgt ls rest)) (kf : Y ≤ X → W p l e R s m args below meth c H locs cells slots Q (F0 m (pc + 3) ls rest)) : W p l e R s m args below meth c H locs cells slots Q (F0 m pc ls (.int y :: .int x :: rest)) :=
  lv_icmp_lt hx hb hdg ht (fun h => kt (by simp only [Int32.lt_iff_toInt_lt, Int32.le_iff_toInt_le, ← Int32.toInt_inj] at h; omega)) (fun h => kf (by simp only [Int32.lt_iff_toInt_lt, Int32.le_iff_toInt_le, ← Int32.toInt_inj] at h; omega))
theorem kt_if_lt (hx : p.tables.exec = Jvm.exec) (hb : c.code = cc) {x : Int32} {X : Int} {off : Int} {tgt : Nat} (hdg : decode cc pc = .ok (.ifCond .lt off, 3)) (ht : (pc : Int) + off = (tgt : Int)) (h1 : x.toInt = X) (kt : X < 0 → W p l e R s m args below meth c H locs cells slots Q (F0 m tgt ls rest)) (kf : 0 ≤ X → W p l e R s m args below meth c H locs cells slots Q (F0 m (pc + 3) ls rest)) : W p l e R s m args below meth c H locs cells slots Q (F0 m pc ls (.int x :: rest)) :=
  lv_if_lt hx hb hdg ht (fun h => kt (by have h0 : (0 : Int32).toInt = 0 := rfl; simp only [Int32.lt_iff_toInt_lt, Int32.le_iff_toInt_le, ← Int32.toInt_inj] at h; omega)) (fun h => kf (by have h0 : (0 : Int32).toInt = 0 := rfl; simp only [Int32.lt_iff_toInt_lt, Int32.le_iff_toInt_le, ← Int32.toInt_inj] at h; omega))
theorem kt_lcmp_lt (hx : p.tables.exec = Jvm.exec) (hb : c.code = cc) {x y : Int64} {X Y : Int} {off : Int} {tgt : Nat} (hdg0 : decode cc pc = .ok (.lcmp, 1)) (hdg : decode cc (pc + 1) = .ok (.ifCond .lt off, 3)) (ht : ((pc + 1 : Nat) : Int) + off = (tgt : Int)) (h1 : x.toInt = X) (h2 : y.toInt = Y) (kt : X < Y → W p l e R s m args below meth c H locs cells slots Q (F0 m tgt ls rest)) (kf : Y ≤ X → W p l e R s m args below meth c H locs cells slots Q (F0 m (pc + 4) ls rest)) : W p l e R s m args below meth c H locs cells slots Q (F0 m pc ls (.long y :: .long x :: rest)) :=
  W.lcmp hx hb hdg0 (lv_if_lt hx hb hdg ht (fun h => kt (by simp only [lg_cmp_lt, Int64.lt_iff_toInt_lt, Int64.le_iff_toInt_le, ← Int64.toInt_inj] at h; omega)) (fun h => kf (by simp only [lg_cmp_lt, Int64.lt_iff_toInt_lt, Int64.le_iff_toInt_le, ← Int64.toInt_inj] at h; omega)))
theorem kt_icmp_ge (hx : p.tables.exec = Jvm.exec) (hb : c.code = cc) {x y : Int32} {X Y : Int} {off : Int} {tgt : Nat} (hdg : decode cc pc = .ok (.if_icmp .ge off, 3)) (ht : (pc : Int) + off = (tgt : Int)) (h1 : x.toInt = X) (h2 : y.toInt = Y) (kt : Y ≤ X → W p l e R s m args below meth c H locs cells slots Q (F0 m tgt ls rest)) (kf : X < Y → W p l e R s m args below meth c H locs cells slots Q (F0 m (pc + 3) ls rest)) : W p l e R s m args below meth c H locs cells slots Q (F0 m pc ls (.int y :: .int x :: rest)) :=
  lv_icmp_ge hx hb hdg ht (fun h => kt (by simp only [Int32.lt_iff_toInt_lt, Int32.le_iff_toInt_le, ← Int32.toInt_inj] at h; omega)) (fun h => kf (by simp only [Int32.lt_iff_toInt_lt, Int32.le_iff_toInt_le, ← Int32.toInt_inj] at h; omega))
theorem kt_if_ge (hx : p.tables.exec = Jvm.exec) (hb : c.code = cc) {x : Int32} {X : Int} {off : Int} {tgt : Nat} (hdg : decode cc pc = .ok (.ifCond .ge off, 3)) (ht : (pc : Int) + off = (tgt : Int)) (h1 : x.toInt = X) (kt : 0 ≤ X → W p l e R s m args below meth c H locs cells slots Q (F0 m tgt ls rest)) (kf : X < 0 → W p l e R s m args below meth c H locs cells slots Q (F0 m (pc + 3) ls rest)) : W p l e R s m args below meth c H locs cells slots Q (F0 m pc ls (.int x :: rest)) :=
  lv_if_ge hx hb hdg ht (fun h => kt (by have h0 : (0 : Int32).toInt = 0 := rfl; simp only [Int32.lt_iff_toInt_lt, Int32.le_iff_toInt_le, ← Int32.toInt_inj] at h; omega)) (fun h => kf (by have h0 : (0 : Int32).toInt = 0 := rfl; simp only [Int32.lt_iff_toInt_lt, Int32.le_iff_toInt_le, ← Int32.toInt_inj] at h; omega))
theorem kt_lcmp_ge (hx : p.tables.exec = Jvm.exec) (hb : c.code = cc) {x y : Int64} {X Y : Int} {off : Int} {tgt : Nat} (hdg0 : decode cc pc = .ok (.lcmp, 1)) (hdg : decode cc (pc + 1) = .ok (.ifCond .ge off, 3)) (ht : ((pc + 1 : Nat) : Int) + off = (tgt : Int)) (h1 : x.toInt = X) (h2 : y.toInt = Y) (kt : Y ≤ X → W p l e R s m args below meth c H locs cells slots Q (F0 m tgt ls rest)) (kf : X < Y → W p l e R s m args below meth c H locs cells slots Q (F0 m (pc + 4) ls rest)) : W p l e R s m args below meth c H locs cells slots Q (F0 m pc ls (.long y :: .long x :: rest)) :=
  W.lcmp hx hb hdg0 (lv_if_ge hx hb hdg ht (fun h => kt (by simp only [lg_cmp_ge, Int64.lt_iff_toInt_lt, Int64.le_iff_toInt_le, ← Int64.toInt_inj] at h; omega)) (fun h => kf (by simp only [lg_cmp_ge, Int64.lt_iff_toInt_lt, Int64.le_iff_toInt_le, ← Int64.toInt_inj] at h; omega)))
theorem kt_icmp_gt (hx : p.tables.exec = Jvm.exec) (hb : c.code = cc) {x y : Int32} {X Y : Int} {off : Int} {tgt : Nat} (hdg : decode cc pc = .ok (.if_icmp .gt off, 3)) (ht : (pc : Int) + off = (tgt : Int)) (h1 : x.toInt = X) (h2 : y.toInt = Y) (kt : Y < X → W p l e R s m args below meth c H locs cells slots Q (F0 m tgt ls rest)) (kf : X ≤ Y → W p l e R s m args below meth c H locs cells slots Q (F0 m (pc + 3) ls rest)) : W p l e R s m args below meth c H locs cells slots Q (F0 m pc ls (.int y :: .int x :: rest)) :=
  lv_icmp_gt hx hb hdg ht (fun h => kt (by simp only [Int32.lt_iff_toInt_lt, Int32.le_iff_toInt_le, ← Int32.toInt_inj] at h; omega)) (fun h => kf (by simp only [Int32.lt_iff_toInt_lt, Int32.le_iff_toInt_le, ← Int32.toInt_inj] at h; omega))
theorem kt_if_gt (hx : p.tables.exec = Jvm.exec) (hb : c.code = cc) {x : Int32} {X : Int} {off : Int} {tgt : Nat} (hdg : decode cc pc = .ok (.ifCond .gt off, 3)) (ht : (pc : Int) + off = (tgt : Int)) (h1 : x.toInt = X) (kt : 0 < X → W p l e R s m args below meth c H locs cells slots Q (F0 m tgt ls rest)) (kf : X ≤ 0 → W p l e R s m args below meth c H locs cells slots Q (F0 m (pc + 3) ls rest)) : W p l e R s m args below meth c H locs cells slots Q (F0 m pc ls (.int x :: rest)) :=
  lv_if_gt hx hb hdg ht (fun h => kt (by have h0 : (0 : Int32).toInt = 0 := rfl; simp only [Int32.lt_iff_toInt_lt, Int32.le_iff_toInt_le, ← Int32.toInt_inj] at h; omega)) (fun h => kf (by have h0 : (0 : Int32).toInt = 0 := rfl; simp only [Int32.lt_iff_toInt_lt, Int32.le_iff_toInt_le, ← Int32.toInt_inj] at h; omega))
theorem kt_lcmp_gt (hx : p.tables.exec = Jvm.exec) (hb : c.code = cc) {x y : Int64} {X Y : Int} {off : Int} {tgt : Nat} (hdg0 : decode cc pc = .ok (.lcmp, 1)) (hdg : decode cc (pc + 1) = .ok (.ifCond .gt off, 3)) (ht : ((pc + 1 : Nat) : Int) + off = (tgt : Int)) (h1 : x.toInt = X) (h2 : y.toInt = Y) (kt : Y < X → W p l e R s m args below meth c H locs cells slots Q (F0 m tgt ls rest)) (kf : X ≤ Y → W p l e R s m args below meth c H locs cells slots Q (F0 m (pc + 4) ls rest)) : W p l e R s m args below meth c H locs cells slots Q (F0 m pc ls (.long y :: .long x :: rest)) :=
  W.lcmp hx hb hdg0 (lv_if_gt hx hb hdg ht (fun h => kt (by simp only [lg_cmp_gt, Int64.lt_iff_toInt_lt, Int64.le_iff_toInt_le, ← Int64.toInt_inj] at h; omega)) (fun h => kf (by simp only [lg_cmp_gt, Int64.lt_iff_toInt_lt, Int64.le_iff_toInt_le, ← Int64.toInt_inj] at h; omega)))
theorem kt_icmp_le (hx : p.tables.exec = Jvm.exec) (hb : c.code = cc) {x y : Int32} {X Y : Int} {off : Int} {tgt : Nat} (hdg : decode cc pc = .ok (.if_icmp .le off, 3)) (ht : (pc : Int) + off = (tgt : Int)) (h1 : x.toInt = X) (h2 : y.toInt = Y) (kt : X ≤ Y → W p l e R s m args below meth c H locs cells slots Q (F0 m tgt ls rest)) (kf : Y < X → W p l e R s m args below meth c H locs cells slots Q (F0 m (pc + 3) ls rest)) : W p l e R s m args below meth c H locs cells slots Q (F0 m pc ls (.int y :: .int x :: rest)) :=
  lv_icmp_le hx hb hdg ht (fun h => kt (by simp only [Int32.lt_iff_toInt_lt, Int32.le_iff_toInt_le, ← Int32.toInt_inj] at h; omega)) (fun h => kf (by simp only [Int32.lt_iff_toInt_lt, Int32.le_iff_toInt_le, ← Int32.toInt_inj] at h; omega))
theorem kt_if_le (hx : p.tables.exec = Jvm.exec) (hb : c.code = cc) {x : Int32} {X : Int} {off : Int} {tgt : Nat} (hdg : decode cc pc = .ok (.ifCond .le off, 3)) (ht : (pc : Int) + off = (tgt : Int)) (h1 : x.toInt = X) (kt : X ≤ 0 → W p l e R s m args below meth c H locs cells slots Q (F0 m tgt ls rest)) (kf : 0 < X → W p l e R s m args below meth c H locs cells slots Q (F0 m (pc + 3) ls rest)) : W p l e R s m args below meth c H locs cells slots Q (F0 m pc ls (.int x :: rest)) :=
  lv_if_le hx hb hdg ht (fun h => kt (by have h0 : (0 : Int32).toInt = 0 := rfl; simp only [Int32.lt_iff_toInt_lt, Int32.le_iff_toInt_le, ← Int32.toInt_inj] at h; omega)) (fun h => kf (by have h0 : (0 : Int32).toInt = 0 := rfl; simp only [Int32.lt_iff_toInt_lt, Int32.le_iff_toInt_le, ← Int32.toInt_inj] at h; omega))
theorem kt_lcmp_le (hx : p.tables.exec = Jvm.exec) (hb : c.code = cc) {x y : Int64} {X Y : Int} {off : Int} {tgt : Nat} (hdg0 : decode cc pc = .ok (.lcmp, 1)) (hdg : decode cc (pc + 1) = .ok (.ifCond .le off, 3)) (ht : ((pc + 1 : Nat) : Int) + off = (tgt : Int)) (h1 : x.toInt = X) (h2 : y.toInt = Y) (kt : X ≤ Y → W p l e R s m args below meth c H locs cells slots Q (F0 m tgt ls rest)) (kf : Y < X → W p l e R s m args below meth c H locs cells slots Q (F0 m (pc + 4) ls rest)) : W p l e R s m args below meth c H locs cells slots Q (F0 m pc ls (.long y :: .long x :: rest)) :=
  W.lcmp hx hb hdg0 (lv_if_le hx hb hdg ht (fun h => kt (by simp only [lg_cmp_le, Int64.lt_iff_toInt_lt, Int64.le_iff_toInt_le, ← Int64.toInt_inj] at h; omega)) (fun h => kf (by simp only [lg_cmp_le, Int64.lt_iff_toInt_lt, Int64.le_iff_toInt_le, ← Int64.toInt_inj] at h; omega)))
theorem kt_ifB_eq (hx : p.tables.exec = Jvm.exec) (hb : c.code = cc) {b : Bool} {off : Int} {tgt : Nat} (hdg : decode cc pc = .ok (.ifCond .eq off, 3)) (ht : (pc : Int) + off = (tgt : Int)) (kt : b = false → W p l e R s m args below meth c H locs cells slots Q (F0 m tgt ls rest)) (kf : b = true → W p l e R s m args below meth c H locs cells slots Q (F0 m (pc + 3) ls rest)) : W p l e R s m args below meth c H locs cells slots Q (F0 m pc ls (.int (bI b) :: rest)) :=
  lv_if_eq hx hb hdg ht (fun h => kt ((bI_eq0 b).mp h)) (fun h => kf (by cases b with | true => rfl | false => exact absurd rfl h))
theorem kt_ifB_ne (hx : p.tables.exec = Jvm.exec) (hb : c.code = cc) {b : Bool} {off : Int} {tgt : Nat} (hdg : decode cc pc = .ok (.ifCond .ne off, 3)) (ht : (pc : Int) + off = (tgt : Int)) (kt : b = true → W p l e R s m args below meth c H locs cells slots Q (F0 m tgt ls rest)) (kf : b = false → W p l e R s m args below meth c H locs cells slots Q (F0 m (pc + 3) ls rest)) : W p l e R s m args below meth c H locs cells slots Q (F0 m pc ls (.int (bI b) :: rest)) :=
  lv_if_ne hx hb hdg ht (fun h => kt (by cases b with | true => rfl | false => exact absurd rfl h)) (fun h => kf ((bI_eq0 b).mp h))
theorem kt_nonnull (hx : p.tables.exec = Jvm.exec) (hb : c.code = cc) {r : Option Nat} {off : Int} {tgt : Nat} (hdg : decode cc pc = .ok (.ifnonnull off, 3)) (ht : (pc : Int) + off = (tgt : Int)) (kt : ∀ a, r = some a → W p l e R s m args below meth c H locs cells slots Q (F0 m tgt ls rest)) (kf : r = none → W p l e R s m args below meth c H locs cells slots Q (F0 m (pc + 3) ls rest)) : W p l e R s m args below meth c H locs cells slots Q (F0 m pc ls (va_rf r :: rest)) := by
  cases r with
  | none => exact lv_ifnonnullN hx hb hdg (kf rfl)
  | some a => exact lv_ifnonnull hx hb hdg ht (kt a rfl)
theorem kt_null (hx : p.tables.exec = Jvm.exec) (hb : c.code = cc) {r : Option Nat} {off : Int} {tgt : Nat} (hdg : decode cc pc = .ok (.ifnull off, 3)) (ht : (pc : Int) + off = (tgt : Int)) (kt : r = none → W p l e R s m args below meth c H locs cells slots Q (F0 m tgt ls rest)) (kf : ∀ a, r = some a → W p l e R s m args below meth c H locs cells slots Q (F0 m (pc + 3) ls rest)) : W p l e R s m args below meth c H locs cells slots Q (F0 m pc ls (va_rf r :: rest)) := by
  cases r with
  | none => exact lv_ifnullN hx hb hdg ht (kt rfl)
  | some a => exact lv_ifnull hx hb hdg (kf a rfl)
/-- a counted loop: i rises to K; the state z, the heap, the locals as the invariant has them -/
theorem kn_loop {α : Type} (K : Nat) (I : Nat → α → Heap → List Loc → Array Slot → Prop) (i0 : Nat) (z0 : α) (h0 : I i0 z0 H locs ls)
    (step : ∀ (i : Nat) (z : α) (H : Heap) (locs : List Loc) (ls : Array Slot), I i z H locs ls → (∀ (z' : α) (H' : Heap) (locs' : List Loc) (ls' : Array Slot), i < K → I (i + 1) z' H' locs' ls' → W p l e R s m args below meth c H' locs' cells slots Q (F0 m pc ls' rest)) → W p l e R s m args below meth c H locs cells slots Q (F0 m pc ls rest)) : W p l e R s m args below meth c H locs cells slots Q (F0 m pc ls rest) := by
  have L : ∀ (n i : Nat) (z : α) (H : Heap) (locs : List Loc) (ls : Array Slot), K - i < n → I i z H locs ls → W p l e R s m args below meth c H locs cells slots Q (F0 m pc ls rest) := by
    intro n
    induction n with
    | zero => intro i z H locs ls h; exact absurd h (Nat.not_lt_zero _)
    | succ n ih =>
      intro i z H locs ls h hI
      exact step i z H locs ls hI (fun z' H' locs' ls' hi hI' => ih (i + 1) z' H' locs' ls' (by omega) hI')
  exact L (K - i0 + 1) i0 z0 H locs ls (by omega) h0
/-- a loop whose measure falls -/
theorem kn_loopM {α : Type} (mu : α → Nat) (I : α → Heap → List Loc → Array Slot → Prop) (z0 : α) (h0 : I z0 H locs ls)
    (step : ∀ (z : α) (H : Heap) (locs : List Loc) (ls : Array Slot), I z H locs ls → (∀ (z' : α) (H' : Heap) (locs' : List Loc) (ls' : Array Slot), mu z' < mu z → I z' H' locs' ls' → W p l e R s m args below meth c H' locs' cells slots Q (F0 m pc ls' rest)) → W p l e R s m args below meth c H locs cells slots Q (F0 m pc ls rest)) : W p l e R s m args below meth c H locs cells slots Q (F0 m pc ls rest) := by
  have L : ∀ (n : Nat) (z : α) (H : Heap) (locs : List Loc) (ls : Array Slot), mu z < n → I z H locs ls → W p l e R s m args below meth c H locs cells slots Q (F0 m pc ls rest) := by
    intro n
    induction n with
    | zero => intro z H locs ls h; exact absurd h (Nat.not_lt_zero _)
    | succ n ih =>
      intro z H locs ls h hI
      exact step z H locs ls hI (fun z' H' locs' ls' hi hI' => ih z' H' locs' ls' (by omega) hI')
  exact L (mu z0 + 1) z0 H locs ls (by omega) h0
/-- counted and reading alone -/
theorem kn_loopR {α : Type} (K : Nat) (I : Nat → α → Array Slot → Prop) (i0 : Nat) (z0 : α) (h0 : I i0 z0 ls)
    (step : ∀ (i : Nat) (z : α) (ls : Array Slot), I i z ls → (∀ (z' : α) (ls' : Array Slot), i < K → I (i + 1) z' ls' → W p l e R s m args below meth c H locs cells slots Q (F0 m pc ls' rest)) → W p l e R s m args below meth c H locs cells slots Q (F0 m pc ls rest)) : W p l e R s m args below meth c H locs cells slots Q (F0 m pc ls rest) := by
  have L : ∀ (n i : Nat) (z : α) (ls : Array Slot), K - i < n → I i z ls → W p l e R s m args below meth c H locs cells slots Q (F0 m pc ls rest) := by
    intro n
    induction n with
    | zero => intro i z ls h; exact absurd h (Nat.not_lt_zero _)
    | succ n ih =>
      intro i z ls h hI
      exact step i z ls hI (fun z' ls' hi hI' => ih (i + 1) z' ls' (by omega) hI')
  exact L (K - i0 + 1) i0 z0 ls (by omega) h0
/-- a place where roads meet, with a value on top -/
theorem kn_join (pj : Nat) (v : Value) (st : List Value) {pc : Nat} {stk : List Value} (after : W p l e R s m args below meth c H locs cells slots Q (F0 m pj ls (v :: st))) (road : (W p l e R s m args below meth c H locs cells slots Q (F0 m pj ls (v :: st))) → W p l e R s m args below meth c H locs cells slots Q (F0 m pc ls stk)) : W p l e R s m args below meth c H locs cells slots Q (F0 m pc ls stk) := road after
theorem kn_as {st st' : List Value} (h : st = st') (k : W p l e R s m args below meth c H locs cells slots Q (F0 m pc ls st')) : W p l e R s m args below meth c H locs cells slots Q (F0 m pc ls st) := by rw [h]; exact k

theorem ro_Vi {y : MethodName} {bytes cc : ByteArray} {maxL nL n index : Nat} {ret : Option FieldType} {ws : List Cond} {rm : Room} {Ts : List Cond} {own : String} {As rest stk : List Value} {D : va_G} {cy : Nat → ClassId} {ev : kz_V} {rd : va_W} {C : String} {b : Addr} {v : Int32} (S : CallFix p m c cc nL s args Ts own) (hM : Met l y ws rm (ro_Pc D cy ev (.ref b :: As) rd) (vp_Si (fun r => r = v)) 0 0 (fun _ => False)) (cw : CallW R s args own C index y bytes maxL ret ws rm 0 0 n) (hK : va_K D vwCl (kz_ty cy) s) (hE : kz_E ev s H) (hP : va_P D vwCl rd H) (hrc : ∃ cell : Cell, H[b]? = some cell ∧ cell.vm.isStatics = false ∧ s.vm.findClass C = some cell.cls)
    (hn : As.length = n) (hsize : ls.size = nL) (hst : stk = As.reverse ++ .ref b :: rest) (hW : (rest.map fun v => v.category).sum ≤ 8) (hdg : decode cc pc = .ok (.invokevirtual index, 3)) (hf : cells ≤ R.cells ∧ slots ≤ R.slots) (k : W p l e R s m args below meth c H locs cells slots Q (F0 m (pc + 3) ls (.int v :: rest))) : W p l e R s m args below meth c H locs cells slots Q (F0 m pc ls stk) := by
  refine vp_callSi (rest := rest) ((va_runV (As := As) (rest := rest) (g := F0 m pc ls stk) S hM cw ⟨ro_blind, hrc, fun U hU hW => ⟨rfl, by rw [hU]; exact hP, va_K.moved hW.alike hK, hE.call hW hU⟩⟩ rfl hn hsize hst (lv_room hW) hdg hf).run) (fun r hr => ?_)
  subst hr
  exact k
theorem ro_Ui {y : MethodName} {bytes cc : ByteArray} {maxL nL n index : Nat} {ret : Option FieldType} {ws : List Cond} {rm : Room} {Ts : List Cond} {own : String} {As rest stk : List Value} {D : va_G} {cy : Nat → ClassId} {ev : kz_V} {rd : va_W} {C owner : String} {x : MethodName} {b : Addr} {v : Int32} (S : CallFix p m c cc nL s args Ts own) (hM : Met l y ws rm (ro_Pc D cy ev (.ref b :: As) rd) (vp_Si (fun r => r = v)) 0 0 (fun _ => False)) (cw : va_CU R s args own C owner index x y bytes maxL ret ws rm 0 0 n) (hK : va_K D vwCl (kz_ty cy) s) (hE : kz_E ev s H) (hP : va_P D vwCl rd H) (hrc : ∃ cell : Cell, H[b]? = some cell ∧ cell.vm.isStatics = false ∧ s.vm.findClass C = some cell.cls)
    (hn : As.length = n) (hsize : ls.size = nL) (hst : stk = As.reverse ++ .ref b :: rest) (hW : (rest.map fun v => v.category).sum ≤ 8) (hdg : decode cc pc = .ok (.invokevirtual index, 3)) (hf : cells ≤ R.cells ∧ slots ≤ R.slots) (k : W p l e R s m args below meth c H locs cells slots Q (F0 m (pc + 3) ls (.int v :: rest))) : W p l e R s m args below meth c H locs cells slots Q (F0 m pc ls stk) := by
  refine vp_callSi (rest := rest) ((va_runU (As := As) (rest := rest) (g := F0 m pc ls stk) S hM cw ⟨ro_blind, hrc, fun U hU hW => ⟨rfl, by rw [hU]; exact hP, va_K.moved hW.alike hK, hE.call hW hU⟩⟩ rfl hn hsize hst (lv_room hW) hdg hf).run) (fun r hr => ?_)
  subst hr
  exact k
theorem ro_Si {y : MethodName} {bytes cc : ByteArray} {maxL nL n index : Nat} {ret : Option FieldType} {ws : List Cond} {rm : Room} {Ts : List Cond} {own : String} {As rest stk : List Value} {D : va_G} {cy : Nat → ClassId} {ev : kz_V} {rd : va_W} {v : Int32} (S : CallFix p m c cc nL s args Ts own) (hM : Met l y ws rm (ro_Pc D cy ev As rd) (vp_Si (fun r => r = v)) 0 0 (fun _ => False)) (cw : CallB R s args own index y bytes maxL ret ws rm 0 0 n ∧ (Cond.static y).before args s = true) (hK : va_K D vwCl (kz_ty cy) s) (hE : kz_E ev s H) (hP : va_P D vwCl rd H)
    (hn : As.length = n) (hsize : ls.size = nL) (hst : stk = As.reverse ++ rest) (hW : (rest.map fun v => v.category).sum ≤ 8) (hdg : decode cc pc = .ok (.invokestatic index, 3)) (hf : cells ≤ R.cells ∧ slots ≤ R.slots) (k : W p l e R s m args below meth c H locs cells slots Q (F0 m (pc + 3) ls (.int v :: rest))) : W p l e R s m args below meth c H locs cells slots Q (F0 m pc ls stk) := by
  refine vp_callSi (rest := rest) ((va_runS (As := As) (rest := rest) (g := F0 m pc ls stk) S hM cw ⟨ro_blind, fun U hU hW => ⟨rfl, by rw [hU]; exact hP, va_K.moved hW.alike hK, hE.call hW hU⟩⟩ rfl hn hsize hst (lv_room hW) hdg hf).run) (fun r hr => ?_)
  subst hr
  exact k
theorem ro_Vl {y : MethodName} {bytes cc : ByteArray} {maxL nL n index : Nat} {ret : Option FieldType} {ws : List Cond} {rm : Room} {Ts : List Cond} {own : String} {As rest stk : List Value} {D : va_G} {cy : Nat → ClassId} {ev : kz_V} {rd : va_W} {C : String} {b : Addr} {v : Int64} (S : CallFix p m c cc nL s args Ts own) (hM : Met l y ws rm (ro_Pc D cy ev (.ref b :: As) rd) (vp_Sl (fun r => r = v)) 0 0 (fun _ => False)) (cw : CallW R s args own C index y bytes maxL ret ws rm 0 0 n) (hK : va_K D vwCl (kz_ty cy) s) (hE : kz_E ev s H) (hP : va_P D vwCl rd H) (hrc : ∃ cell : Cell, H[b]? = some cell ∧ cell.vm.isStatics = false ∧ s.vm.findClass C = some cell.cls)
    (hn : As.length = n) (hsize : ls.size = nL) (hst : stk = As.reverse ++ .ref b :: rest) (hW : (rest.map fun v => v.category).sum ≤ 8) (hdg : decode cc pc = .ok (.invokevirtual index, 3)) (hf : cells ≤ R.cells ∧ slots ≤ R.slots) (k : W p l e R s m args below meth c H locs cells slots Q (F0 m (pc + 3) ls (.long v :: rest))) : W p l e R s m args below meth c H locs cells slots Q (F0 m pc ls stk) := by
  refine vp_callSl (rest := rest) ((va_runV (As := As) (rest := rest) (g := F0 m pc ls stk) S hM cw ⟨ro_blind, hrc, fun U hU hW => ⟨rfl, by rw [hU]; exact hP, va_K.moved hW.alike hK, hE.call hW hU⟩⟩ rfl hn hsize hst (lv_room hW) hdg hf).run) (fun r hr => ?_)
  subst hr
  exact k
theorem ro_Ul {y : MethodName} {bytes cc : ByteArray} {maxL nL n index : Nat} {ret : Option FieldType} {ws : List Cond} {rm : Room} {Ts : List Cond} {own : String} {As rest stk : List Value} {D : va_G} {cy : Nat → ClassId} {ev : kz_V} {rd : va_W} {C owner : String} {x : MethodName} {b : Addr} {v : Int64} (S : CallFix p m c cc nL s args Ts own) (hM : Met l y ws rm (ro_Pc D cy ev (.ref b :: As) rd) (vp_Sl (fun r => r = v)) 0 0 (fun _ => False)) (cw : va_CU R s args own C owner index x y bytes maxL ret ws rm 0 0 n) (hK : va_K D vwCl (kz_ty cy) s) (hE : kz_E ev s H) (hP : va_P D vwCl rd H) (hrc : ∃ cell : Cell, H[b]? = some cell ∧ cell.vm.isStatics = false ∧ s.vm.findClass C = some cell.cls)
    (hn : As.length = n) (hsize : ls.size = nL) (hst : stk = As.reverse ++ .ref b :: rest) (hW : (rest.map fun v => v.category).sum ≤ 8) (hdg : decode cc pc = .ok (.invokevirtual index, 3)) (hf : cells ≤ R.cells ∧ slots ≤ R.slots) (k : W p l e R s m args below meth c H locs cells slots Q (F0 m (pc + 3) ls (.long v :: rest))) : W p l e R s m args below meth c H locs cells slots Q (F0 m pc ls stk) := by
  refine vp_callSl (rest := rest) ((va_runU (As := As) (rest := rest) (g := F0 m pc ls stk) S hM cw ⟨ro_blind, hrc, fun U hU hW => ⟨rfl, by rw [hU]; exact hP, va_K.moved hW.alike hK, hE.call hW hU⟩⟩ rfl hn hsize hst (lv_room hW) hdg hf).run) (fun r hr => ?_)
  subst hr
  exact k
theorem ro_Sl {y : MethodName} {bytes cc : ByteArray} {maxL nL n index : Nat} {ret : Option FieldType} {ws : List Cond} {rm : Room} {Ts : List Cond} {own : String} {As rest stk : List Value} {D : va_G} {cy : Nat → ClassId} {ev : kz_V} {rd : va_W} {v : Int64} (S : CallFix p m c cc nL s args Ts own) (hM : Met l y ws rm (ro_Pc D cy ev As rd) (vp_Sl (fun r => r = v)) 0 0 (fun _ => False)) (cw : CallB R s args own index y bytes maxL ret ws rm 0 0 n ∧ (Cond.static y).before args s = true) (hK : va_K D vwCl (kz_ty cy) s) (hE : kz_E ev s H) (hP : va_P D vwCl rd H)
    (hn : As.length = n) (hsize : ls.size = nL) (hst : stk = As.reverse ++ rest) (hW : (rest.map fun v => v.category).sum ≤ 8) (hdg : decode cc pc = .ok (.invokestatic index, 3)) (hf : cells ≤ R.cells ∧ slots ≤ R.slots) (k : W p l e R s m args below meth c H locs cells slots Q (F0 m (pc + 3) ls (.long v :: rest))) : W p l e R s m args below meth c H locs cells slots Q (F0 m pc ls stk) := by
  refine vp_callSl (rest := rest) ((va_runS (As := As) (rest := rest) (g := F0 m pc ls stk) S hM cw ⟨ro_blind, fun U hU hW => ⟨rfl, by rw [hU]; exact hP, va_K.moved hW.alike hK, hE.call hW hU⟩⟩ rfl hn hsize hst (lv_room hW) hdg hf).run) (fun r hr => ?_)
  subst hr
  exact k
theorem ro_Vq {y : MethodName} {bytes cc : ByteArray} {maxL nL n index : Nat} {ret : Option FieldType} {ws : List Cond} {rm : Room} {Ts : List Cond} {own : String} {As rest stk : List Value} {D : va_G} {cy : Nat → ClassId} {ev : kz_V} {rd : va_W} {C : String} {b : Addr} {v : Option Nat} (S : CallFix p m c cc nL s args Ts own) (hM : Met l y ws rm (ro_Pc D cy ev (.ref b :: As) rd) (va_Sq (fun r => r = v)) 0 0 (fun _ => False)) (cw : CallW R s args own C index y bytes maxL ret ws rm 0 0 n) (hK : va_K D vwCl (kz_ty cy) s) (hE : kz_E ev s H) (hP : va_P D vwCl rd H) (hrc : ∃ cell : Cell, H[b]? = some cell ∧ cell.vm.isStatics = false ∧ s.vm.findClass C = some cell.cls)
    (hn : As.length = n) (hsize : ls.size = nL) (hst : stk = As.reverse ++ .ref b :: rest) (hW : (rest.map fun v => v.category).sum ≤ 8) (hdg : decode cc pc = .ok (.invokevirtual index, 3)) (hf : cells ≤ R.cells ∧ slots ≤ R.slots) (k : W p l e R s m args below meth c H locs cells slots Q (F0 m (pc + 3) ls (va_rf v :: rest))) : W p l e R s m args below meth c H locs cells slots Q (F0 m pc ls stk) := by
  refine va_csq (rest := rest) ((va_runV (As := As) (rest := rest) (g := F0 m pc ls stk) S hM cw ⟨ro_blind, hrc, fun U hU hW => ⟨rfl, by rw [hU]; exact hP, va_K.moved hW.alike hK, hE.call hW hU⟩⟩ rfl hn hsize hst (lv_room hW) hdg hf).run) (fun r hr => ?_)
  subst hr
  exact k
theorem ro_Uq {y : MethodName} {bytes cc : ByteArray} {maxL nL n index : Nat} {ret : Option FieldType} {ws : List Cond} {rm : Room} {Ts : List Cond} {own : String} {As rest stk : List Value} {D : va_G} {cy : Nat → ClassId} {ev : kz_V} {rd : va_W} {C owner : String} {x : MethodName} {b : Addr} {v : Option Nat} (S : CallFix p m c cc nL s args Ts own) (hM : Met l y ws rm (ro_Pc D cy ev (.ref b :: As) rd) (va_Sq (fun r => r = v)) 0 0 (fun _ => False)) (cw : va_CU R s args own C owner index x y bytes maxL ret ws rm 0 0 n) (hK : va_K D vwCl (kz_ty cy) s) (hE : kz_E ev s H) (hP : va_P D vwCl rd H) (hrc : ∃ cell : Cell, H[b]? = some cell ∧ cell.vm.isStatics = false ∧ s.vm.findClass C = some cell.cls)
    (hn : As.length = n) (hsize : ls.size = nL) (hst : stk = As.reverse ++ .ref b :: rest) (hW : (rest.map fun v => v.category).sum ≤ 8) (hdg : decode cc pc = .ok (.invokevirtual index, 3)) (hf : cells ≤ R.cells ∧ slots ≤ R.slots) (k : W p l e R s m args below meth c H locs cells slots Q (F0 m (pc + 3) ls (va_rf v :: rest))) : W p l e R s m args below meth c H locs cells slots Q (F0 m pc ls stk) := by
  refine va_csq (rest := rest) ((va_runU (As := As) (rest := rest) (g := F0 m pc ls stk) S hM cw ⟨ro_blind, hrc, fun U hU hW => ⟨rfl, by rw [hU]; exact hP, va_K.moved hW.alike hK, hE.call hW hU⟩⟩ rfl hn hsize hst (lv_room hW) hdg hf).run) (fun r hr => ?_)
  subst hr
  exact k
theorem ro_Sq {y : MethodName} {bytes cc : ByteArray} {maxL nL n index : Nat} {ret : Option FieldType} {ws : List Cond} {rm : Room} {Ts : List Cond} {own : String} {As rest stk : List Value} {D : va_G} {cy : Nat → ClassId} {ev : kz_V} {rd : va_W} {v : Option Nat} (S : CallFix p m c cc nL s args Ts own) (hM : Met l y ws rm (ro_Pc D cy ev As rd) (va_Sq (fun r => r = v)) 0 0 (fun _ => False)) (cw : CallB R s args own index y bytes maxL ret ws rm 0 0 n ∧ (Cond.static y).before args s = true) (hK : va_K D vwCl (kz_ty cy) s) (hE : kz_E ev s H) (hP : va_P D vwCl rd H)
    (hn : As.length = n) (hsize : ls.size = nL) (hst : stk = As.reverse ++ rest) (hW : (rest.map fun v => v.category).sum ≤ 8) (hdg : decode cc pc = .ok (.invokestatic index, 3)) (hf : cells ≤ R.cells ∧ slots ≤ R.slots) (k : W p l e R s m args below meth c H locs cells slots Q (F0 m (pc + 3) ls (va_rf v :: rest))) : W p l e R s m args below meth c H locs cells slots Q (F0 m pc ls stk) := by
  refine va_csq (rest := rest) ((va_runS (As := As) (rest := rest) (g := F0 m pc ls stk) S hM cw ⟨ro_blind, fun U hU hW => ⟨rfl, by rw [hU]; exact hP, va_K.moved hW.alike hK, hE.call hW hU⟩⟩ rfl hn hsize hst (lv_room hW) hdg hf).run) (fun r hr => ?_)
  subst hr
  exact k
theorem wr_Vi {y : MethodName} {bytes cc : ByteArray} {maxL nL n index mc ms : Nat} {ret : Option FieldType} {ws : List Cond} {rm : Room} {Ts : List Cond} {own : String} {As rest stk : List Value} {D : va_G} {cy : Nat → ClassId} {ev : kz_V} {wc rc : va_W} {H0 : Heap} {A : Nat → Prop} {C : String} {b : Addr} {U : Type} {post : Int32 → U → Prop} {w1 : U → va_W} (S : CallFix p m c cc nL s args Ts own) (hM : Met l y ws rm (wr_Pc D cy ev (.ref b :: As) wc rc H.size) (va_Qi post (wr_B D wc H.size w1) (va_A wc H.size)) mc ms (va_A wc H.size)) (cw : CallW R s args own C index y bytes maxL ret ws rm mc ms n) (hK : va_K D vwCl (kz_ty cy) s) (hE : kz_E ev s H) (hP : va_P D vwCl wc H) (hR : va_P D vwCl rc H) (hD : va_D (fun q => ev.1 ≤ q) (wc ++ rc)) (hsz : ev.1 ≤ H.size) (hS : va_S A H0 H locs) (hF : ∀ q, va_A wc H.size q → A q) (hrc : ∃ cell : Cell, H[b]? = some cell ∧ cell.vm.isStatics = false ∧ s.vm.findClass C = some cell.cls)
    (hn : As.length = n) (hsize : ls.size = nL) (hst : stk = As.reverse ++ .ref b :: rest) (hW : (rest.map fun v => v.category).sum ≤ 8) (hdg : decode cc pc = .ok (.invokevirtual index, 3)) (hf : cells + mc ≤ R.cells ∧ slots + ms ≤ R.slots) (kk : ∀ (r : Int32) (u : U) (H1 : Heap) (locs1 : List Loc), post r u → va_P D vwCl (w1 u) H1 → va_D (va_A wc H.size) (w1 u) → H.size ≤ H1.size → (∀ q : Nat, q < H.size → ¬ va_A wc H.size q → H1[q]? = H[q]?) → va_S A H0 H1 locs1 → W p l e R s m args below meth c H1 locs1 (cells + mc) (slots + ms) Q (F0 m (pc + 3) ls (.int r :: rest))) : W p l e R s m args below meth c H locs cells slots Q (F0 m pc ls stk) :=
  va_calli (rest := rest) (va_runV (As := As) (rest := rest) (g := F0 m pc ls stk) S hM cw ⟨wr_blind, hrc, fun U hU hW => ⟨rfl, by rw [hU], by rw [hU]; exact hP, by rw [hU]; exact hR, va_K.moved hW.alike hK, hD, hE.call hW hU, hsz⟩⟩ rfl hn hsize hst (lv_room hW) hdg hf) hS (fun q _ h => hF q h) hF (fun r u t H1 locs1 ht _ hp hB hz hk hS1 => kk r u H1 locs1 hp (by rw [← ht]; exact hB.1) hB.2 hz hk hS1)
theorem wr_Vl {y : MethodName} {bytes cc : ByteArray} {maxL nL n index mc ms : Nat} {ret : Option FieldType} {ws : List Cond} {rm : Room} {Ts : List Cond} {own : String} {As rest stk : List Value} {D : va_G} {cy : Nat → ClassId} {ev : kz_V} {wc rc : va_W} {H0 : Heap} {A : Nat → Prop} {C : String} {b : Addr} {U : Type} {post : Int64 → U → Prop} {w1 : U → va_W} (S : CallFix p m c cc nL s args Ts own) (hM : Met l y ws rm (wr_Pc D cy ev (.ref b :: As) wc rc H.size) (va_Ql post (wr_B D wc H.size w1) (va_A wc H.size)) mc ms (va_A wc H.size)) (cw : CallW R s args own C index y bytes maxL ret ws rm mc ms n) (hK : va_K D vwCl (kz_ty cy) s) (hE : kz_E ev s H) (hP : va_P D vwCl wc H) (hR : va_P D vwCl rc H) (hD : va_D (fun q => ev.1 ≤ q) (wc ++ rc)) (hsz : ev.1 ≤ H.size) (hS : va_S A H0 H locs) (hF : ∀ q, va_A wc H.size q → A q) (hrc : ∃ cell : Cell, H[b]? = some cell ∧ cell.vm.isStatics = false ∧ s.vm.findClass C = some cell.cls)
    (hn : As.length = n) (hsize : ls.size = nL) (hst : stk = As.reverse ++ .ref b :: rest) (hW : (rest.map fun v => v.category).sum ≤ 8) (hdg : decode cc pc = .ok (.invokevirtual index, 3)) (hf : cells + mc ≤ R.cells ∧ slots + ms ≤ R.slots) (kk : ∀ (r : Int64) (u : U) (H1 : Heap) (locs1 : List Loc), post r u → va_P D vwCl (w1 u) H1 → va_D (va_A wc H.size) (w1 u) → H.size ≤ H1.size → (∀ q : Nat, q < H.size → ¬ va_A wc H.size q → H1[q]? = H[q]?) → va_S A H0 H1 locs1 → W p l e R s m args below meth c H1 locs1 (cells + mc) (slots + ms) Q (F0 m (pc + 3) ls (.long r :: rest))) : W p l e R s m args below meth c H locs cells slots Q (F0 m pc ls stk) :=
  va_calll (rest := rest) (va_runV (As := As) (rest := rest) (g := F0 m pc ls stk) S hM cw ⟨wr_blind, hrc, fun U hU hW => ⟨rfl, by rw [hU], by rw [hU]; exact hP, by rw [hU]; exact hR, va_K.moved hW.alike hK, hD, hE.call hW hU, hsz⟩⟩ rfl hn hsize hst (lv_room hW) hdg hf) hS (fun q _ h => hF q h) hF (fun r u t H1 locs1 ht _ hp hB hz hk hS1 => kk r u H1 locs1 hp (by rw [← ht]; exact hB.1) hB.2 hz hk hS1)
theorem wr_Vv {y : MethodName} {bytes cc : ByteArray} {maxL nL n index mc ms : Nat} {ret : Option FieldType} {ws : List Cond} {rm : Room} {Ts : List Cond} {own : String} {As rest stk : List Value} {D : va_G} {cy : Nat → ClassId} {ev : kz_V} {wc rc : va_W} {H0 : Heap} {A : Nat → Prop} {C : String} {b : Addr} {U : Type} {post : U → Prop} {w1 : U → va_W} (S : CallFix p m c cc nL s args Ts own) (hM : Met l y ws rm (wr_Pc D cy ev (.ref b :: As) wc rc H.size) (va_Qv post (wr_B D wc H.size w1) (va_A wc H.size)) mc ms (va_A wc H.size)) (cw : CallW R s args own C index y bytes maxL ret ws rm mc ms n) (hK : va_K D vwCl (kz_ty cy) s) (hE : kz_E ev s H) (hP : va_P D vwCl wc H) (hR : va_P D vwCl rc H) (hD : va_D (fun q => ev.1 ≤ q) (wc ++ rc)) (hsz : ev.1 ≤ H.size) (hS : va_S A H0 H locs) (hF : ∀ q, va_A wc H.size q → A q) (hrc : ∃ cell : Cell, H[b]? = some cell ∧ cell.vm.isStatics = false ∧ s.vm.findClass C = some cell.cls)
    (hn : As.length = n) (hsize : ls.size = nL) (hst : stk = As.reverse ++ .ref b :: rest) (hW : (rest.map fun v => v.category).sum ≤ 8) (hdg : decode cc pc = .ok (.invokevirtual index, 3)) (hf : cells + mc ≤ R.cells ∧ slots + ms ≤ R.slots) (kk : ∀ (u : U) (H1 : Heap) (locs1 : List Loc), post u → va_P D vwCl (w1 u) H1 → va_D (va_A wc H.size) (w1 u) → H.size ≤ H1.size → (∀ q : Nat, q < H.size → ¬ va_A wc H.size q → H1[q]? = H[q]?) → va_S A H0 H1 locs1 → W p l e R s m args below meth c H1 locs1 (cells + mc) (slots + ms) Q (F0 m (pc + 3) ls rest)) : W p l e R s m args below meth c H locs cells slots Q (F0 m pc ls stk) :=
  va_callv (rest := rest) (va_runV (As := As) (rest := rest) (g := F0 m pc ls stk) S hM cw ⟨wr_blind, hrc, fun U hU hW => ⟨rfl, by rw [hU], by rw [hU]; exact hP, by rw [hU]; exact hR, va_K.moved hW.alike hK, hD, hE.call hW hU, hsz⟩⟩ rfl hn hsize hst (lv_room hW) hdg hf) hS (fun q _ h => hF q h) hF (fun u t H1 locs1 ht _ hp hB hz hk hS1 => kk u H1 locs1 hp (by rw [← ht]; exact hB.1) hB.2 hz hk hS1)
theorem wr_Iv {y : MethodName} {bytes cc : ByteArray} {maxL nL n index mc ms : Nat} {ret : Option FieldType} {ws : List Cond} {rm : Room} {Ts : List Cond} {own : String} {As rest stk : List Value} {D : va_G} {cy : Nat → ClassId} {ev : kz_V} {wc rc : va_W} {H0 : Heap} {A : Nat → Prop} {b : Addr} {U : Type} {post : U → Prop} {w1 : U → va_W} (S : CallFix p m c cc nL s args Ts own) (hM : Met l y ws rm (wr_Pc D cy ev (.ref b :: As) wc rc H.size) (va_Qv post (wr_B D wc H.size w1) (va_A wc H.size)) mc ms (va_A wc H.size)) (cw : CallB R s args own index y bytes maxL none ws rm mc ms n ∧ y.name = "<init>" ∧ (Cond.instanceMethod y).before args s = true) (hK : va_K D vwCl (kz_ty cy) s) (hE : kz_E ev s H) (hP : va_P D vwCl wc H) (hR : va_P D vwCl rc H) (hD : va_D (fun q => ev.1 ≤ q) (wc ++ rc)) (hsz : ev.1 ≤ H.size) (hS : va_S A H0 H locs) (hF : ∀ q, va_A wc H.size q → A q)
    (hn : As.length = n) (hsize : ls.size = nL) (hst : stk = As.reverse ++ .ref b :: rest) (hW : (rest.map fun v => v.category).sum ≤ 8) (hdg : decode cc pc = .ok (.invokespecial index, 3)) (hf : cells + mc ≤ R.cells ∧ slots + ms ≤ R.slots) (kk : ∀ (u : U) (H1 : Heap) (locs1 : List Loc), post u → va_P D vwCl (w1 u) H1 → va_D (va_A wc H.size) (w1 u) → H.size ≤ H1.size → (∀ q : Nat, q < H.size → ¬ va_A wc H.size q → H1[q]? = H[q]?) → va_S A H0 H1 locs1 → W p l e R s m args below meth c H1 locs1 (cells + mc) (slots + ms) Q (F0 m (pc + 3) ls rest)) : W p l e R s m args below meth c H locs cells slots Q (F0 m pc ls stk) :=
  va_callv (rest := rest) (va_runI (As := As) (rest := rest) (g := F0 m pc ls stk) S hM cw ⟨wr_blind, fun U hU hW => ⟨rfl, by rw [hU], by rw [hU]; exact hP, by rw [hU]; exact hR, va_K.moved hW.alike hK, hD, hE.call hW hU, hsz⟩⟩ rfl hn hsize hst (lv_room hW) hdg hf) hS (fun q _ h => hF q h) hF (fun u t H1 locs1 ht _ hp hB hz hk hS1 => kk u H1 locs1 hp (by rw [← ht]; exact hB.1) hB.2 hz hk hS1)
theorem wr_Vr {y : MethodName} {bytes cc : ByteArray} {maxL nL n index mc ms : Nat} {ret : Option FieldType} {ws : List Cond} {rm : Room} {Ts : List Cond} {own : String} {As rest stk : List Value} {D : va_G} {cy : Nat → ClassId} {ev : kz_V} {wc rc : va_W} {H0 : Heap} {A : Nat → Prop} {C : String} {b : Addr} {U : Type} {post : U → Prop} {w1 : U → Nat → va_W} (S : CallFix p m c cc nL s args Ts own) (hM : Met l y ws rm (wr_Pc D cy ev (.ref b :: As) wc rc H.size) (va_Qr post (fun u ra t => va_P D vwCl (w1 u ra) t.heap ∧ va_D (va_A wc H.size) (w1 u ra)) (va_A wc H.size)) mc ms (va_A wc H.size)) (cw : CallW R s args own C index y bytes maxL ret ws rm mc ms n) (hK : va_K D vwCl (kz_ty cy) s) (hE : kz_E ev s H) (hP : va_P D vwCl wc H) (hR : va_P D vwCl rc H) (hD : va_D (fun q => ev.1 ≤ q) (wc ++ rc)) (hsz : ev.1 ≤ H.size) (hS : va_S A H0 H locs) (hF : ∀ q, va_A wc H.size q → A q) (hrc : ∃ cell : Cell, H[b]? = some cell ∧ cell.vm.isStatics = false ∧ s.vm.findClass C = some cell.cls)
    (hn : As.length = n) (hsize : ls.size = nL) (hst : stk = As.reverse ++ .ref b :: rest) (hW : (rest.map fun v => v.category).sum ≤ 8) (hdg : decode cc pc = .ok (.invokevirtual index, 3)) (hf : cells + mc ≤ R.cells ∧ slots + ms ≤ R.slots) (kk : ∀ (u : U) (ra : Nat) (H1 : Heap) (locs1 : List Loc), post u → va_P D vwCl (w1 u ra) H1 → va_D (va_A wc H.size) (w1 u ra) → H.size ≤ H1.size → (∀ q : Nat, q < H.size → ¬ va_A wc H.size q → H1[q]? = H[q]?) → va_S A H0 H1 locs1 → W p l e R s m args below meth c H1 locs1 (cells + mc) (slots + ms) Q (F0 m (pc + 3) ls (.ref ra :: rest))) : W p l e R s m args below meth c H locs cells slots Q (F0 m pc ls stk) :=
  va_callr (rest := rest) (va_runV (As := As) (rest := rest) (g := F0 m pc ls stk) S hM cw ⟨wr_blind, hrc, fun U hU hW => ⟨rfl, by rw [hU], by rw [hU]; exact hP, by rw [hU]; exact hR, va_K.moved hW.alike hK, hD, hE.call hW hU, hsz⟩⟩ rfl hn hsize hst (lv_room hW) hdg hf) hS (fun q _ h => hF q h) hF (fun u ra t H1 locs1 ht _ hp hB hz hk hS1 => kk u ra H1 locs1 hp (by rw [← ht]; exact hB.1) hB.2 hz hk hS1)
theorem ro_ri {post : Int32 → Prop} {v : Int32} (hx : p.tables.exec = Jvm.exec) (hb : c.code = cc) (hr : meth.sig.returnType = some .int) (hlk : meth.locks = false) (hdg : decode cc pc = .ok (.ireturn, 1)) (h : post v) : W p l e R s m args below meth c s.heap [] 0 0 (MQ below (vp_Si post) args s 0 0 (fun _ => False)) (F0 m pc ls [.int v]) :=
  W.iret hx hb hr (fun t ht _ => ⟨v, rfl, h, ht⟩) (fun _ h => absurd h List.not_mem_nil) hdg hlk
theorem ro_rz {post : Int32 → Prop} {v : Int32} (hx : p.tables.exec = Jvm.exec) (hb : c.code = cc) (hr : meth.sig.returnType = some .boolean) (hlk : meth.locks = false) (hdg : decode cc pc = .ok (.ireturn, 1)) (hn : narrow .boolean (.int v) = .int v) (h : post v) : W p l e R s m args below meth c s.heap [] 0 0 (MQ below (vp_Si post) args s 0 0 (fun _ => False)) (F0 m pc ls [.int v]) :=
  W.zret hx hb hr hn (fun t ht _ => ⟨v, rfl, h, ht⟩) (fun _ h => absurd h List.not_mem_nil) hdg hlk
theorem ro_rl {post : Int64 → Prop} {v : Int64} (hx : p.tables.exec = Jvm.exec) (hb : c.code = cc) (hr : meth.sig.returnType = some .long) (hlk : meth.locks = false) (hdg : decode cc pc = .ok (.lreturn, 1)) (h : post v) : W p l e R s m args below meth c s.heap [] 0 0 (MQ below (vp_Sl post) args s 0 0 (fun _ => False)) (F0 m pc ls [.long v]) :=
  W.lret hx hb hr (fun t ht _ => ⟨v, rfl, h, ht⟩) (fun _ h => absurd h List.not_mem_nil) hdg hlk
theorem ro_rq {post : Option Nat → Prop} {v : Option Nat} {cn : String} (hx : p.tables.exec = Jvm.exec) (hb : c.code = cc) (hr : meth.sig.returnType = some (.object cn)) (hlk : meth.locks = false) (hdg : decode cc pc = .ok (.areturn, 1)) (h : post v) : W p l e R s m args below meth c s.heap [] 0 0 (MQ below (va_Sq post) args s 0 0 (fun _ => False)) (F0 m pc ls [va_rf v]) :=
  W.aret hx hb hr (Or.inl ⟨cn, rfl⟩) (va_rf_or v) (fun t ht _ => ⟨v, rfl, h, ht⟩) (fun _ h => absurd h List.not_mem_nil) hdg hlk
theorem wr_ri {U : Type} {D : va_G} {post : Int32 → U → Prop} {w1 : U → va_W} {wr : va_W} {sz : Nat} {v : Int32} (u : U) (hx : p.tables.exec = Jvm.exec) (hb : c.code = cc) (hr : meth.sig.returnType = some .int) (hlk : meth.locks = false) (hS : va_S (va_A wr sz) s.heap H locs) (hdg : decode cc pc = .ok (.ireturn, 1)) (h : post v u) (hP : va_P D vwCl (w1 u) H) (hD : va_D (va_A wr sz) (w1 u)) : W p l e R s m args below meth c H locs cells slots (MQ below (va_Qi post (wr_B D wr sz w1) (va_A wr sz)) args s cells slots (va_A wr sz)) (F0 m pc ls [.int v]) :=
  W.iret hx hb hr (fun t ht _ => ⟨⟨v, u, rfl, h, by rw [ht]; exact hP, hD⟩, hS.F ht⟩) hS.2.2 hdg hlk
theorem wr_rz {U : Type} {D : va_G} {post : Int32 → U → Prop} {w1 : U → va_W} {wr : va_W} {sz : Nat} {v : Int32} (u : U) (hx : p.tables.exec = Jvm.exec) (hb : c.code = cc) (hr : meth.sig.returnType = some .boolean) (hlk : meth.locks = false) (hS : va_S (va_A wr sz) s.heap H locs) (hdg : decode cc pc = .ok (.ireturn, 1)) (hn : narrow .boolean (.int v) = .int v) (h : post v u) (hP : va_P D vwCl (w1 u) H) (hD : va_D (va_A wr sz) (w1 u)) : W p l e R s m args below meth c H locs cells slots (MQ below (va_Qi post (wr_B D wr sz w1) (va_A wr sz)) args s cells slots (va_A wr sz)) (F0 m pc ls [.int v]) :=
  W.zret hx hb hr hn (fun t ht _ => ⟨⟨v, u, rfl, h, by rw [ht]; exact hP, hD⟩, hS.F ht⟩) hS.2.2 hdg hlk
theorem wr_rl {U : Type} {D : va_G} {post : Int64 → U → Prop} {w1 : U → va_W} {wr : va_W} {sz : Nat} {v : Int64} (u : U) (hx : p.tables.exec = Jvm.exec) (hb : c.code = cc) (hr : meth.sig.returnType = some .long) (hlk : meth.locks = false) (hS : va_S (va_A wr sz) s.heap H locs) (hdg : decode cc pc = .ok (.lreturn, 1)) (h : post v u) (hP : va_P D vwCl (w1 u) H) (hD : va_D (va_A wr sz) (w1 u)) : W p l e R s m args below meth c H locs cells slots (MQ below (va_Ql post (wr_B D wr sz w1) (va_A wr sz)) args s cells slots (va_A wr sz)) (F0 m pc ls [.long v]) :=
  W.lret hx hb hr (fun t ht _ => ⟨⟨v, u, rfl, h, by rw [ht]; exact hP, hD⟩, hS.F ht⟩) hS.2.2 hdg hlk
theorem wr_rv {U : Type} {D : va_G} {post : U → Prop} {w1 : U → va_W} {wr : va_W} {sz : Nat} (u : U) (hx : p.tables.exec = Jvm.exec) (hb : c.code = cc) (hr : meth.sig.returnType = none) (hlk : meth.locks = false) (hS : va_S (va_A wr sz) s.heap H locs) (hdg : decode cc pc = .ok (.return_, 1)) (h : post u) (hP : va_P D vwCl (w1 u) H) (hD : va_D (va_A wr sz) (w1 u)) : W p l e R s m args below meth c H locs cells slots (MQ below (va_Qv post (wr_B D wr sz w1) (va_A wr sz)) args s cells slots (va_A wr sz)) (F0 m pc ls []) :=
  W.vret hx hb hr (fun t ht _ => ⟨⟨u, rfl, h, by rw [ht]; exact hP, hD⟩, hS.F ht⟩) hS.2.2 hdg hlk
end KN
