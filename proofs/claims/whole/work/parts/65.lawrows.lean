/-! rows for the law: the class's cells, the reference's, the persons -/
abbrev LX (cy : Nat → ClassId) (ax g : Nat → Nat) (q : Nat → Nat → Nat) (bt : Nat → Nat → Int32) (rv : Nat → Nat → Nat) (pf : Nat → Option Nat) : va_W := [zO (ax 0) 7 [.ref (ax 1), .ref (ax 3), .ref (ax 4), .ref (ax 10), .ref (ax 16), .int (nI (g 0)), .int (nI (g 4)), .int (nI (g 6)), .int (nI (g 5))], zO (ax 1) 1 [.ref (ax 2), .int (nI (g 3))], zI cy (ax 2) 18 (fun i9 => nI ((q 7) i9)), zQ cy (ax 3) 4 pf, zO (ax 4) 4 [.ref (ax 5), .ref (ax 6), .ref (ax 7), .ref (ax 8), .ref (ax 9), .int (nI (g 2)), .int (nI (g 1))], zI cy (ax 5) 4 (fun i9 => nI ((q 3) i9)), zJ cy (ax 6) 4 (fun i9 => lN ((q 4) i9)), zI cy (ax 7) 4 (fun i9 => nI ((q 5) i9)), zI cy (ax 8) 4 (fun i9 => nI ((q 6) i9)), zI cy (ax 9) 4 (bt 0), zO (ax 10) 4 [.ref (ax 11), .ref (ax 12), .ref (ax 13), .ref (ax 14), .ref (ax 15), .int (nI (g 8)), .int (nI (g 7))], zI cy (ax 11) 4 (fun i9 => nI ((q 8) i9)), zJ cy (ax 12) 4 (fun i9 => lN ((q 9) i9)), zI cy (ax 13) 4 (fun i9 => nI ((q 10) i9)), zI cy (ax 14) 4 (fun i9 => nI ((q 11) i9)), zI cy (ax 15) 4 (bt 1), zG cy (ax 16) 4 (fun i => if i < 4 then some (ax (17 + i)) else none), zJ cy (ax 17) 4 (fun i9 => lN ((rv 0) i9)), zJ cy (ax 18) 4 (fun i9 => lN ((rv 1) i9)), zJ cy (ax 19) 4 (fun i9 => lN ((rv 2) i9)), zJ cy (ax 20) 4 (fun i9 => lN ((rv 3) i9))]
abbrev LM (cy : Nat → ClassId) (am g : Nat → Nat) (q : Nat → Nat → Nat) (kb : Bool) (sc : MSc) : va_W := [zO (am 0) 8 [.int (nI (g 4)), .int (nI (g 0)), .int (nI (g 1)), .ref (am 1), .ref (am 2), .ref (am 3), .ref (am 4), .ref (am 5), .ref (am 6), .ref (am 7), .int (nI (g 9)), .int (nI (g 2)), .ref (am 8), .ref (am 9), .ref (am 10), .ref (am 11), .int (nI (g 5)), .int (nI (g 3)), .ref (am 12), .int (bI sc.1), .int (nI sc.2.1), .ref (am 13), .int sc.2.2.1, .long sc.2.2.2.1, .int (bI kb), .int (nI (g 6)), .int (nI (g 7)), .int (nI (g 10)), .int (nI (g 8)), .ref (am 14), .ref (am 15), .ref (am 16), .ref (am 17), .ref (am 18), .ref (am 19), .ref (am 20), .ref (am 21), .long sc.2.2.2.2.1], zI cy (am 1) 4 (fun i9 => nI ((q 0) i9)), zI cy (am 2) 4 (fun i9 => nI ((q 1) i9)), zI cy (am 3) 4 (fun i9 => nI ((q 2) i9)), zI cy (am 4) 4 (fun i9 => nI ((q 3) i9)), zI cy (am 5) 4 (fun i9 => nI ((q 5) i9)), zI cy (am 6) 4 (fun i9 => nI ((q 6) i9)), zJ cy (am 7) 4 (fun i9 => lN ((q 4) i9)), zI cy (am 8) 6 (fun i9 => nI ((q 12) i9)), zI cy (am 9) 6 (fun i9 => nI ((q 13) i9)), zI cy (am 10) 6 (fun i9 => nI ((q 14) i9)), zI cy (am 11) 6 (fun i9 => nI ((q 15) i9)), zB cy (am 12) 18 (fun i9 => nI ((q 7) i9)), zJ cy (am 13) 16 (fun i9 => lN (sc.2.2.2.2.2 i9)), zI cy (am 14) 4 (fun i9 => nI ((q 8) i9)), zI cy (am 15) 4 (fun i9 => nI ((q 10) i9)), zI cy (am 16) 4 (fun i9 => nI ((q 11) i9)), zJ cy (am 17) 4 (fun i9 => lN ((q 9) i9)), zI cy (am 18) 6 (fun i9 => nI ((q 16) i9)), zI cy (am 19) 6 (fun i9 => nI ((q 17) i9)), zI cy (am 20) 6 (fun i9 => nI ((q 18) i9)), zI cy (am 21) 6 (fun i9 => nI ((q 19) i9))]
section LJ
variable {D : va_G} {cl : List vw_C} {A : Nat → Prop} {X X1 M Z N : va_W} {H H0 H1 : Heap} {locs : List Loc}
theorem va_D.ap (h : va_D A (X ++ M)) {x y : Nat × va_E} (hx : x ∈ X) (hy : y ∈ M) : x.1 ≠ y.1 := by
  obtain ⟨i, hi⟩ := List.getElem?_of_mem hx
  obtain ⟨j, hj⟩ := List.getElem?_of_mem hy
  exact h.apart hi hj
theorem lj_xz (h : va_D A (X ++ (M ++ Z))) : va_D A (X ++ Z) :=
  h.left.app h.right.right (fun i j x y hi hj e => h.ap (List.mem_of_getElem? hi) (List.mem_append_right M (List.mem_of_getElem? hj)) e)
theorem lj_sw (h : va_D A (X ++ (M ++ Z))) : va_D A (M ++ (X ++ Z)) :=
  h.right.left.app (lj_xz h) (fun i j x y hi hj e => by
    rcases List.mem_append.mp (List.mem_of_getElem? hj) with c | c
    · exact h.ap c (List.mem_append_left Z (List.mem_of_getElem? hi)) e.symm
    · exact h.right.ap (List.mem_of_getElem? hi) c e)
theorem lj_swP (h : va_P D cl (X ++ (M ++ Z)) H) : va_P D cl (M ++ (X ++ Z)) H := h.right.left.app (h.left.app h.right.right)
theorem lj_new (h : va_D A ((X ++ N) ++ (M ++ Z))) : va_D A (X ++ (M ++ N)) :=
  h.left.left.app (h.right.left.app h.left.right (fun i j x y hi hj e => h.ap (List.mem_append_right X (List.mem_of_getElem? hj)) (List.mem_append_left Z (List.mem_of_getElem? hi)) e.symm)) (fun i j x y hi hj e => by
    rcases List.mem_append.mp (List.mem_of_getElem? hj) with c | c
    · exact h.ap (List.mem_append_left N (List.mem_of_getElem? hi)) (List.mem_append_left Z c) e
    · exact h.left.ap (List.mem_of_getElem? hi) c e)
theorem lj_newP (h : va_P D cl ((X ++ N) ++ (M ++ Z)) H) : va_P D cl (X ++ (M ++ N)) H := h.left.left.app (h.right.left.app h.left.right)
theorem lj_free (hD : va_D A (X ++ M)) (hS : va_S A H0 H locs) (hA : ∀ q, H0.size ≤ q → A q) : ∀ q, va_A X H.size q → A q := by
  intro q h
  rcases h with ⟨k, e, hk⟩ | h
  · exact hD.left.2 k _ hk
  · exact hA q (Nat.le_trans hS.1 h)
theorem lj_join (hP : va_P D cl (X ++ M) H) (hD : va_D A (X ++ M)) (hk : ∀ q : Nat, q < H.size → ¬ va_A X H.size q → H1[q]? = H[q]?) (hF : ∀ q, va_A X H.size q → A q) (hP1 : va_P D cl X1 H1) (hD1 : va_D (va_A X H.size) X1) : va_P D cl (X1 ++ M) H1 ∧ va_D A (X1 ++ M) := by
  have no := kz_out hD hP.right
  refine ⟨hP1.app (hP.right.kept (fun k q h => hk q.1 (hP.right k q h).lt (no k q h))), (hD1.weaken (fun _ _ _ h => hF _ h)).app hD.right (fun i j x y hi hj e => no j y hj ?_)⟩
  rw [← e]
  exact hD1.2 i x hi
end LJ
section LR
variable {p : Program} {l : Launch} {e : Env} {R : Room} {s : State} {m : MethodId} {args : Array Value} {below : List Frame} {meth : Method} {c : Code} {H H0 : Heap} {locs : List Loc} {cells slots : Nat} {Q : State → Prop} {A : Nat → Prop}
variable {cc : ByteArray} {pc : Nat} {ls : Array Slot} {rest : List Value}
theorem kn_sld (hx : p.tables.exec = Jvm.exec) (hb : c.code = cc) {b L j : Nat} {xs : Nat → Int32} (hX : va_X b L xs s H0) (hbl : b < H0.size) (hbA : ¬ A b) (hS : va_S A H0 H locs) (hj : j < L) (hL : L ≤ 320) (hdg : decode cc pc = .ok (.iaload, 1)) (k : W p l e R s m args below meth c H locs cells slots Q (F0 m (pc + 1) ls (.int (xs j) :: rest))) : W p l e R s m args below meth c H locs cells slots Q (F0 m pc ls (.int (nI j) :: .ref b :: rest)) := by
  refine va_sld hx hb hX hbl hbA hS (vp_in_nI hj (by omega)) hdg ?_
  rw [nI_clamp (by omega)]
  exact k
end LR
/-! what a step leaves as it was -/
section KEEP
variable {g : Nat → Nat} {q : Nat → Nat → Nat}
theorem XP.to {g' : Nat → Nat} {q' : Nat → Nat → Nat} {pf : Nat → Option Nat} {pa : Nat → Nat} {pz : va_W} (h : XP g q pf pa pz) (k : g' 0 = g 0 ∧ g' 4 = g 4 ∧ q' 0 = q 0 ∧ q' 1 = q 1 ∧ q' 2 = q 2) : XP g' q' pf pa pz := fun j hj => by
  obtain ⟨a, -, b, c, d⟩ := k
  rw [a] at hj
  rw [b, c, d]
  exact h j hj
theorem kp_letter (y : Int32) : N_letterg g y 0 = g 0 ∧ N_letterg g y 4 = g 4 ∧ N_letterq g q y 0 = q 0 ∧ N_letterq g q y 1 = q 1 ∧ N_letterq g q y 2 = q 2 := by
  unfold N_letterg N_letterq
  cases ixc y with
  | none => exact ⟨rfl, rfl, rfl, rfl, rfl⟩
  | some z =>
    dsimp only
    by_cases c : g 3 < 18
    · rw [if_pos c, if_pos c]
      exact ⟨rfl, rfl, rfl, rfl, rfl⟩
    · rw [if_neg c, if_neg c]
      exact ⟨rfl, rfl, rfl, rfl, rfl⟩
theorem kp_butter (x y : Int32) : g 0 = g 0 ∧ g 4 = g 4 ∧ N_butter g q x y 0 = q 0 ∧ N_butter g q x y 1 = q 1 ∧ N_butter g q x y 2 = q 2 := by
  unfold N_butter
  cases ix (g 0) x with
  | none => exact ⟨rfl, rfl, rfl, rfl, rfl⟩
  | some z =>
    dsimp only
    cases ix 10 y with
    | none => exact ⟨rfl, rfl, rfl, rfl, rfl⟩
    | some z => exact ⟨rfl, rfl, rfl, rfl, rfl⟩
theorem kp_loaf (y : Int32) : N_loaf g y 0 = g 0 ∧ N_loaf g y 4 = g 4 ∧ q 0 = q 0 ∧ q 1 = q 1 ∧ q 2 = q 2 := by
  unfold N_loaf
  cases ix1 y with
  | none => exact ⟨rfl, rfl, rfl, rfl, rfl⟩
  | some z =>
    dsimp only
    by_cases c : g 0 = 0
    · rw [if_pos c]
      exact ⟨rfl, rfl, rfl, rfl, rfl⟩
    · rw [if_neg c]
      exact ⟨rfl, rfl, rfl, rfl, rfl⟩
theorem kp_eat (x : Int32) (ch : Bool) : N_eatg g q x ch 0 = g 0 ∧ N_eatg g q x ch 4 = g 4 ∧ N_eatq g q x ch 0 = q 0 ∧ N_eatq g q x ch 1 = q 1 ∧ N_eatq g q x ch 2 = q 2 := by
  unfold N_eatg N_eatq
  cases ix (g 0) x with
  | none => exact ⟨rfl, rfl, rfl, rfl, rfl⟩
  | some z =>
    dsimp only
    by_cases c : eats g q z ch = true
    · rw [if_pos c, if_pos c]
      exact ⟨rfl, rfl, rfl, rfl, rfl⟩
    · rw [if_neg c, if_neg c]
      exact ⟨rfl, rfl, rfl, rfl, rfl⟩
theorem kp_right (x y : Int32) : N_right g x y 0 = g 0 ∧ N_right g x y 4 = g 4 ∧ q 0 = q 0 ∧ q 1 = q 1 ∧ q 2 = q 2 := by
  unfold N_right
  cases ix 4 x with
  | none => exact ⟨rfl, rfl, rfl, rfl, rfl⟩
  | some z =>
    dsimp only
    cases ix 3 y with
    | none => exact ⟨rfl, rfl, rfl, rfl, rfl⟩
    | some z2 =>
      dsimp only
      by_cases c : g 0 = 0 ∨ 20 ≤ g 5
      · rw [if_pos c]
        exact ⟨rfl, rfl, rfl, rfl, rfl⟩
      · rw [if_neg c]
        exact ⟨rfl, rfl, rfl, rfl, rfl⟩
theorem kp_hear (x : Int32) : N_hearg g x 0 = g 0 ∧ N_hearg g x 4 = g 4 ∧ q 0 = q 0 ∧ q 1 = q 1 ∧ q 2 = q 2 := by
  unfold N_hearg
  cases ix (g 0) x with
  | none => exact ⟨rfl, rfl, rfl, rfl, rfl⟩
  | some z =>
    dsimp only
    by_cases c : 6 ≤ g 2
    · rw [if_pos c]
      exact ⟨rfl, rfl, rfl, rfl, rfl⟩
    · rw [if_neg c]
      exact ⟨rfl, rfl, rfl, rfl, rfl⟩
theorem k6_letter (y : Int32) : N_letterg g y 6 = g 6 := by
  unfold N_letterg
  cases ixc y with
  | none => exact rfl
  | some z =>
    dsimp only
    by_cases c : g 3 < 18
    · rw [if_pos c]
      try rfl
    · rw [if_neg c]
      try rfl
theorem k6_loaf (y : Int32) : N_loaf g y 6 = g 6 := by
  unfold N_loaf
  cases ix1 y with
  | none => exact rfl
  | some z =>
    dsimp only
    by_cases c : g 0 = 0
    · rw [if_pos c]
      try rfl
    · rw [if_neg c]
      try rfl
theorem k6_eat (x : Int32) (ch : Bool) : N_eatg g q x ch 6 = g 6 := by
  unfold N_eatg
  cases ix (g 0) x with
  | none => exact rfl
  | some z =>
    dsimp only
    by_cases c : eats g q z ch = true
    · rw [if_pos c]
      try rfl
    · rw [if_neg c]
      try rfl
theorem k6_right (x y : Int32) : N_right g x y 6 = g 6 := by
  unfold N_right
  cases ix 4 x with
  | none => exact rfl
  | some z =>
    dsimp only
    cases ix 3 y with
    | none => exact rfl
    | some z2 =>
      dsimp only
      by_cases c : g 0 = 0 ∨ 20 ≤ g 5
      · rw [if_pos c]
        try rfl
      · rw [if_neg c]
        try rfl
theorem k6_hear (x : Int32) : N_hearg g x 6 = g 6 := by
  unfold N_hearg
  cases ix (g 0) x with
  | none => exact rfl
  | some z =>
    dsimp only
    by_cases c : 6 ≤ g 2
    · rw [if_pos c]
      try rfl
    · rw [if_neg c]
      try rfl
end KEEP
