/-! what a court is when it has been read -/
def crm (g : Nat → Nat) : Nat := min 4 ((g 3 - 1) / 4)
def crg (g : Nat → Nat) (q : Nat → Nat → Nat) : Nat → Nat := fg (fg (fg (fg (fg (fg g 0 (crm g)) 1 (cd (q 7) (g 3) (g 3 - 1) - 48)) 2 0) 3 0) 4 (g 4 + 1)) 9 0
def crq (g : Nat → Nat) (q : Nat → Nat → Nat) : Nat → Nat → Nat := fq (fq (fq (fq (fq (fq (fq q 0 (kdC (q 7) (g 3))) 1 (feC (q 7) (g 3))) 2 (odC (q 7) (g 3))) 3 (ff (fun _ => 0) (q 3) 4)) 4 (ff (odC (q 7) (g 3)) (ff (fun _ => 0) (q 4) 4) (crm g))) 5 (ff (fun _ => 0) (q 5) 4)) 6 (ff (fun _ => 0) (q 6) 4)
def crb (bt : Nat → Nat → Int32) : Nat → Nat → Int32 := fb bt 0 (fr (fun _ => nI 1023) (bt 0) 4)
def F_court (g : Nat → Nat) (q : Nat → Nat → Nat) : Int32 := if whl (q 7) (g 3) then nI (crm g) else -103
def pfn (pa : Nat → Nat) (pf : Nat → Option Nat) (i : Nat) : Nat → Option Nat := fun j => if j < i then some (pa j) else pf j
theorem pfn_0 (pa : Nat → Nat) (pf : Nat → Option Nat) : pfn pa pf 0 = pf := by
  funext j
  unfold pfn
  rw [if_neg (by omega)]
theorem pfn_s (pa : Nat → Nat) (pf : Nat → Option Nat) (i a : Nat) : va_up (pfn pa pf i) i (some a) = pfn (fun j => if j = i then a else pa j) pf (i + 1) := by
  funext j
  unfold va_up pfn
  by_cases h : j = i
  · subst h
    rw [if_pos rfl, if_pos (by omega)]
    dsimp only
    rw [if_pos rfl]
  · rw [if_neg h]
    by_cases h2 : j < i
    · rw [if_pos h2, if_pos (by omega)]
      dsimp only
      rw [if_neg h]
    · rw [if_neg h2, if_neg (by omega)]
abbrev perC (pg : Nat → Nat) (n : Nat) (a j : Nat) : Nat × va_E := zO a (pk (kdC pg n j)) [.int (nI (feC pg n j)), .int (nI (odC pg n j))]
theorem pz_push {pg : Nat → Nat} {n i a : Nat} {pz : va_W} {pa : Nat → Nat} (hl : pz.length = i) (h : ∀ j, j < i → pz[j]? = some (perC pg n (pa j) j)) : ∀ j, j < i + 1 → (pz ++ [perC pg n a i])[j]? = some (perC pg n (if j = i then a else pa j) j) := by
  intro j hj
  by_cases e : j = i
  · subst e
    rw [if_pos rfl, List.getElem?_append_right (by omega), hl, Nat.sub_self]
    rfl
  · rw [if_neg e, List.getElem?_append_left (by omega)]
    exact h j (by omega)
theorem kz_FN {A : Nat → Prop} {H0 H : Heap} {locs : List Loc} (hS : va_S A H0 H locs) (hA : ∀ q, H0.size ≤ q → A q) : ∀ q, va_A [] H.size q → A q := by
  intro q h
  rcases h with ⟨k, e, hk⟩ | h
  · simp at hk
  · exact hA q (Nat.le_trans hS.1 h)
