
/-! the grammar of a command, over the signs t -/
abbrev dg (t : Nat → Nat) (p : Nat) : Prop := 48 ≤ t p ∧ t p ≤ 57
def nE (t : Nat → Nat) (p : Nat) : Nat := if dg t p then (if t p ≠ 48 ∧ dg t (p + 1) then p + 2 else p + 1) else p
def nV (t : Nat → Nat) (p : Nat) : Nat := if t p ≠ 48 ∧ dg t (p + 1) then 10 * (t p - 48) + (t (p + 1) - 48) else t p - 48
theorem nE_f (t : Nat → Nat) (p : Nat) : (¬ (48 ≤ t p ∧ t p ≤ 57) ∧ nE t p = p) ∨ ((48 ≤ t p ∧ t p ≤ 57) ∧ ¬ (t p ≠ 48 ∧ 48 ≤ t (p + 1) ∧ t (p + 1) ≤ 57) ∧ nE t p = p + 1 ∧ nV t p = t p - 48) ∨ ((48 ≤ t p ∧ t p ≤ 57) ∧ t p ≠ 48 ∧ (48 ≤ t (p + 1) ∧ t (p + 1) ≤ 57) ∧ nE t p = p + 2 ∧ nV t p = 10 * (t p - 48) + (t (p + 1) - 48)) := by
  unfold nE nV
  by_cases h1 : dg t p
  · rw [if_pos h1]
    by_cases h2 : t p ≠ 48 ∧ dg t (p + 1)
    · rw [if_pos h2, if_pos h2]; exact Or.inr (Or.inr ⟨h1, h2.1, h2.2, rfl, rfl⟩)
    · rw [if_neg h2, if_neg h2]; exact Or.inr (Or.inl ⟨h1, h2, rfl, rfl⟩)
  · rw [if_neg h1]; exact Or.inl ⟨h1, rfl⟩
def lts (t : Nat → Nat) (p : Nat) : Nat := stp (fun j => decide (97 ≤ t j ∧ t j ≤ 122)) p (p + 8)
theorem lts_le (t : Nat → Nat) (p : Nat) : lts t p ≤ 8 := by have := stp_le (fun j => decide (97 ≤ t j ∧ t j ≤ 122)) p (p + 8); unfold lts; omega
theorem lts_eq {t : Nat → Nat} {p d : Nat} (h1 : ∀ j, j < d → 97 ≤ t (p + j) ∧ t (p + j) ≤ 122) (h2 : d ≤ 8) (h3 : d < 8 → ¬ (97 ≤ t (p + d) ∧ t (p + d) ≤ 122)) : lts t p = d :=
  stp_eq (fun j hj => decide_eq_true (h1 j hj)) (by omega) (fun h q => h3 (by omega) (of_decide_eq_true q))
theorem lts_all {t : Nat → Nat} {p j : Nat} (h : j < lts t p) : 97 ≤ t (p + j) ∧ t (p + j) ≤ 122 := of_decide_eq_true (stp_run h)
theorem run_s {P : Nat → Prop} {d : Nat} (h : ∀ j, j < d → P j) (hd : P d) : ∀ j, j < d + 1 → P j := fun j hj => by
  by_cases e : j = d
  · rw [e]; exact hd
  · exact h j (by omega)
def sk (t : Nat → Nat) (p : Nat) : Nat := p + stp (fun j => decide (t j = 32)) p 80
theorem sk_eq {t : Nat → Nat} {p d : Nat} (h1 : ∀ j, j < d → t (p + j) = 32) (h2 : d = 0 ∨ p + d ≤ 80) (h3 : ¬ t (p + d) = 32) : sk t p = p + d := by
  unfold sk
  rw [stp_eq (d := d) (fun j hj => decide_eq_true (h1 j hj)) (by omega) (fun _ q => h3 (of_decide_eq_true q))]
theorem sk_ge (t : Nat → Nat) (p : Nat) : p ≤ sk t p := Nat.le_add_right _ _
def fnc (t : Nat → Nat) (e : Nat) : Nat × Nat := if t e = 59 then (e + 1, 1) else (e, 0)
def cR (t : Nat → Nat) (p : Nat) : Nat × Nat :=
  if t p = 43 ∨ t p = 45 ∨ t p = 60 ∨ t p = 62 ∨ t p = 64 then
    (if dg t (p + 1) then
      (if t p = 45 then (if t (nE t (p + 1)) = 44 then (if dg t (nE t (p + 1) + 1) then fnc t (nE t (nE t (p + 1) + 1)) else (nE t (p + 1) + 1, 0)) else (nE t (p + 1), 0))
       else if t p = 43 then (if t (nE t (p + 1)) = 58 then (if lts t (nE t (p + 1) + 1) = 0 then (nE t (p + 1) + 1, 0) else fnc t (nE t (p + 1) + 1 + lts t (nE t (p + 1) + 1))) else (nE t (p + 1), 0))
       else fnc t (nE t (p + 1)))
     else (p + 1, 0))
  else (p, 0)
def cP (t : Nat → Nat) (p : Nat) : Nat := (cR t p).1
def cK (t : Nat → Nat) (p : Nat) : Nat := (cR t p).2
theorem fnc_f (t : Nat → Nat) (e : Nat) : (t e = 59 ∧ (fnc t e).1 = e + 1 ∧ (fnc t e).2 = 1) ∨ (¬ t e = 59 ∧ (fnc t e).1 = e ∧ (fnc t e).2 = 0) := by
  unfold fnc
  by_cases h : t e = 59
  · rw [if_pos h]; exact Or.inl ⟨h, rfl, rfl⟩
  · rw [if_neg h]; exact Or.inr ⟨h, rfl, rfl⟩
section CR
variable {t : Nat → Nat} {p : Nat}
theorem cR_s (h : ¬ (t p = 43 ∨ t p = 45 ∨ t p = 60 ∨ t p = 62 ∨ t p = 64)) : cP t p = p ∧ cK t p = 0 := by
  unfold cP cK cR; rw [if_neg h]; exact ⟨rfl, rfl⟩
theorem cR_n (h : t p = 43 ∨ t p = 45 ∨ t p = 60 ∨ t p = 62 ∨ t p = 64) (h1 : ¬ (48 ≤ t (p + 1) ∧ t (p + 1) ≤ 57)) : cP t p = p + 1 ∧ cK t p = 0 := by
  unfold cP cK cR; rw [if_pos h, if_neg h1]; exact ⟨rfl, rfl⟩
theorem cR_m (h : t p = 45) (h1 : 48 ≤ t (p + 1) ∧ t (p + 1) ≤ 57) : (¬ t (nE t (p + 1)) = 44 ∧ cP t p = nE t (p + 1) ∧ cK t p = 0) ∨ (t (nE t (p + 1)) = 44 ∧ ¬ (48 ≤ t (nE t (p + 1) + 1) ∧ t (nE t (p + 1) + 1) ≤ 57) ∧ cP t p = nE t (p + 1) + 1 ∧ cK t p = 0) ∨ (t (nE t (p + 1)) = 44 ∧ (48 ≤ t (nE t (p + 1) + 1) ∧ t (nE t (p + 1) + 1) ≤ 57) ∧ t (nE t (nE t (p + 1) + 1)) = 59 ∧ cP t p = nE t (nE t (p + 1) + 1) + 1 ∧ cK t p = 1) ∨ (t (nE t (p + 1)) = 44 ∧ (48 ≤ t (nE t (p + 1) + 1) ∧ t (nE t (p + 1) + 1) ≤ 57) ∧ ¬ t (nE t (nE t (p + 1) + 1)) = 59 ∧ cP t p = nE t (nE t (p + 1) + 1) ∧ cK t p = 0) := by
  unfold cP cK cR
  rw [if_pos (Or.inr (Or.inl h)), if_pos h1, if_pos h]
  by_cases h2 : t (nE t (p + 1)) = 44
  · rw [if_pos h2]
    by_cases h3 : dg t (nE t (p + 1) + 1)
    · rw [if_pos h3]
      rcases fnc_f t (nE t (nE t (p + 1) + 1)) with q | q
      · exact Or.inr (Or.inr (Or.inl ⟨h2, h3, q.1, q.2.1, q.2.2⟩))
      · exact Or.inr (Or.inr (Or.inr ⟨h2, h3, q.1, q.2.1, q.2.2⟩))
    · rw [if_neg h3]; exact Or.inr (Or.inl ⟨h2, h3, rfl, rfl⟩)
  · rw [if_neg h2]; exact Or.inl ⟨h2, rfl, rfl⟩
theorem cR_p (h : t p = 43) (h1 : 48 ≤ t (p + 1) ∧ t (p + 1) ≤ 57) : (¬ t (nE t (p + 1)) = 58 ∧ cP t p = nE t (p + 1) ∧ cK t p = 0) ∨ (t (nE t (p + 1)) = 58 ∧ lts t (nE t (p + 1) + 1) = 0 ∧ cP t p = nE t (p + 1) + 1 ∧ cK t p = 0) ∨ (t (nE t (p + 1)) = 58 ∧ ¬ lts t (nE t (p + 1) + 1) = 0 ∧ t (nE t (p + 1) + 1 + lts t (nE t (p + 1) + 1)) = 59 ∧ cP t p = nE t (p + 1) + 1 + lts t (nE t (p + 1) + 1) + 1 ∧ cK t p = 1) ∨ (t (nE t (p + 1)) = 58 ∧ ¬ lts t (nE t (p + 1) + 1) = 0 ∧ ¬ t (nE t (p + 1) + 1 + lts t (nE t (p + 1) + 1)) = 59 ∧ cP t p = nE t (p + 1) + 1 + lts t (nE t (p + 1) + 1) ∧ cK t p = 0) := by
  unfold cP cK cR
  rw [if_pos (Or.inl h), if_pos h1, if_neg (show ¬ t p = 45 by omega), if_pos h]
  by_cases h2 : t (nE t (p + 1)) = 58
  · rw [if_pos h2]
    by_cases h3 : lts t (nE t (p + 1) + 1) = 0
    · rw [if_pos h3]; exact Or.inr (Or.inl ⟨h2, h3, rfl, rfl⟩)
    · rw [if_neg h3]
      rcases fnc_f t (nE t (p + 1) + 1 + lts t (nE t (p + 1) + 1)) with q | q
      · exact Or.inr (Or.inr (Or.inl ⟨h2, h3, q.1, q.2.1, q.2.2⟩))
      · exact Or.inr (Or.inr (Or.inr ⟨h2, h3, q.1, q.2.1, q.2.2⟩))
  · rw [if_neg h2]; exact Or.inl ⟨h2, rfl, rfl⟩
theorem cR_o (h : t p = 60 ∨ t p = 62 ∨ t p = 64) (h1 : 48 ≤ t (p + 1) ∧ t (p + 1) ≤ 57) : (t (nE t (p + 1)) = 59 ∧ cP t p = nE t (p + 1) + 1 ∧ cK t p = 1) ∨ (¬ t (nE t (p + 1)) = 59 ∧ cP t p = nE t (p + 1) ∧ cK t p = 0) := by
  unfold cP cK cR
  rw [if_pos (by omega), if_pos h1, if_neg (show ¬ t p = 45 by omega), if_neg (show ¬ t p = 43 by omega)]
  exact fnc_f t (nE t (p + 1))
end CR
