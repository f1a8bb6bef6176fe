
/-! the grammar again, a row a branch; spaces; the error's place -/
section CR2
variable {t : Nat → Nat} {p : Nat}
theorem cR_m1 (h : t p = 45) (h1 : 48 ≤ t (p + 1) ∧ t (p + 1) ≤ 57) (h2 : ¬ t (nE t (p + 1)) = 44) : cP t p = nE t (p + 1) ∧ cK t p = 0 := by
  rcases cR_m h h1 with q | q | q | q
  · exact q.2
  · exact absurd q.1 h2
  · exact absurd q.1 h2
  · exact absurd q.1 h2
theorem cR_m2 (h : t p = 45) (h1 : 48 ≤ t (p + 1) ∧ t (p + 1) ≤ 57) (h2 : t (nE t (p + 1)) = 44) (h3 : ¬ (48 ≤ t (nE t (p + 1) + 1) ∧ t (nE t (p + 1) + 1) ≤ 57)) : cP t p = nE t (p + 1) + 1 ∧ cK t p = 0 := by
  rcases cR_m h h1 with q | q | q | q
  · exact absurd h2 q.1
  · exact q.2.2
  · exact absurd q.2.1 h3
  · exact absurd q.2.1 h3
theorem cR_m3 (h : t p = 45) (h1 : 48 ≤ t (p + 1) ∧ t (p + 1) ≤ 57) (h2 : t (nE t (p + 1)) = 44) (h3 : 48 ≤ t (nE t (p + 1) + 1) ∧ t (nE t (p + 1) + 1) ≤ 57) : cP t p = (fnc t (nE t (nE t (p + 1) + 1))).1 ∧ cK t p = (fnc t (nE t (nE t (p + 1) + 1))).2 := by
  unfold cP cK cR
  rw [if_pos (Or.inr (Or.inl h)), if_pos h1, if_pos h, if_pos h2, if_pos h3]
  exact ⟨rfl, rfl⟩
theorem cR_p1 (h : t p = 43) (h1 : 48 ≤ t (p + 1) ∧ t (p + 1) ≤ 57) (h2 : ¬ t (nE t (p + 1)) = 58) : cP t p = nE t (p + 1) ∧ cK t p = 0 := by
  rcases cR_p h h1 with q | q | q | q
  · exact q.2
  · exact absurd q.1 h2
  · exact absurd q.1 h2
  · exact absurd q.1 h2
theorem cR_p2 (h : t p = 43) (h1 : 48 ≤ t (p + 1) ∧ t (p + 1) ≤ 57) (h2 : t (nE t (p + 1)) = 58) (h3 : lts t (nE t (p + 1) + 1) = 0) : cP t p = nE t (p + 1) + 1 ∧ cK t p = 0 := by
  rcases cR_p h h1 with q | q | q | q
  · exact absurd h2 q.1
  · exact q.2.2
  · exact absurd h3 q.2.1
  · exact absurd h3 q.2.1
theorem cR_p3 (h : t p = 43) (h1 : 48 ≤ t (p + 1) ∧ t (p + 1) ≤ 57) (h2 : t (nE t (p + 1)) = 58) (h3 : ¬ lts t (nE t (p + 1) + 1) = 0) : cP t p = (fnc t (nE t (p + 1) + 1 + lts t (nE t (p + 1) + 1))).1 ∧ cK t p = (fnc t (nE t (p + 1) + 1 + lts t (nE t (p + 1) + 1))).2 := by
  unfold cP cK cR
  rw [if_pos (Or.inl h), if_pos h1, if_neg (show ¬ t p = 45 by omega), if_pos h, if_pos h2, if_neg h3]
  exact ⟨rfl, rfl⟩
theorem cR_o3 (h : t p = 60 ∨ t p = 62 ∨ t p = 64) (h1 : 48 ≤ t (p + 1) ∧ t (p + 1) ≤ 57) : cP t p = (fnc t (nE t (p + 1))).1 ∧ cK t p = (fnc t (nE t (p + 1))).2 := by
  unfold cP cK cR
  rw [if_pos (by omega), if_pos h1, if_neg (show ¬ t p = 45 by omega), if_neg (show ¬ t p = 43 by omega)]
  exact ⟨rfl, rfl⟩
theorem nE_b (t : Nat → Nat) (q : Nat) : q ≤ nE t q ∧ nE t q ≤ q + 2 := by
  rcases nE_f t q with h | h | h <;> omega
theorem cP_b : p ≤ cP t p ∧ cP t p ≤ p + 16 ∧ cK t p ≤ 1 ∧ (cK t p = 1 → p < cP t p) := by
  by_cases h : t p = 43 ∨ t p = 45 ∨ t p = 60 ∨ t p = 62 ∨ t p = 64
  · by_cases h1 : 48 ≤ t (p + 1) ∧ t (p + 1) ≤ 57
    · have e1 := nE_b t (p + 1)
      by_cases h2 : t p = 45
      · have e2 := nE_b t (nE t (p + 1) + 1)
        rcases cR_m h2 h1 with q | q | q | q <;> omega
      · by_cases h3 : t p = 43
        · have e2 := lts_le t (nE t (p + 1) + 1)
          rcases cR_p h3 h1 with q | q | q | q <;> omega
        · rcases cR_o (by omega) h1 with q | q <;> omega
    · have := cR_n h h1; omega
  · have := cR_s h; omega
theorem sk_P {P : Nat} (h0 : p ≤ P) (h1 : ∀ j, p ≤ j → j < P → t j = 32) (h2 : P = p ∨ P ≤ 80) (h3 : ¬ t P = 32) : sk t p = P := by
  have := @sk_eq t p (P - p) (fun j hj => h1 (p + j) (by omega) (by omega)) (by omega) (by rw [show p + (P - p) = P by omega]; exact h3)
  omega
theorem run_P {P : Nat} {T : Nat → Prop} (h : ∀ j, p ≤ j → j < P → T j) (hP : T P) : ∀ j, p ≤ j → j < P + 1 → T j := fun j h1 h2 => by
  by_cases e : j = P
  · rw [e]; exact hP
  · exact h j h1 (by omega)
end CR2
/-- the place of the first error, or -9 -/
def erS (t : Nat → Nat) (rl : Nat) : Nat → Nat → Int
  | 0, _ => -9
  | n + 1, p => if sk t p < rl then (if cK t (sk t p) = 1 then erS t rl n (cP t (sk t p)) else ((cP t (sk t p) : Nat) : Int)) else -9
theorem erS_n {t : Nat → Nat} {rl : Nat} : ∀ (n m p : Nat), rl < n + p → rl < m + p → erS t rl n p = erS t rl m p := by
  intro n
  induction n with
  | zero =>
    intro m p h1 h2
    cases m with
    | zero => rfl
    | succ m =>
      have := sk_ge t p
      show (-9 : Int) = if sk t p < rl then _ else -9
      rw [if_neg (by omega)]
  | succ n ih =>
    intro m p h1 h2
    have hk := sk_ge t p
    cases m with
    | zero =>
      show (if sk t p < rl then _ else -9) = (-9 : Int)
      rw [if_neg (by omega)]
    | succ m =>
      show (if sk t p < rl then (if cK t (sk t p) = 1 then erS t rl n (cP t (sk t p)) else _) else -9) = (if sk t p < rl then (if cK t (sk t p) = 1 then erS t rl m (cP t (sk t p)) else _) else -9)
      by_cases q : cK t (sk t p) = 1
      · have hb := (@cP_b t (sk t p)).2.2.2 q
        rw [if_pos q, if_pos q, ih m (cP t (sk t p)) (by omega) (by omega)]
      · rw [if_neg q, if_neg q]
def erP (t : Nat → Nat) (rl p : Nat) : Int := erS t rl (rl + 1) p
theorem erP_u (t : Nat → Nat) (rl p : Nat) : (¬ sk t p < rl ∧ erP t rl p = -9) ∨ (sk t p < rl ∧ cK t (sk t p) = 1 ∧ erP t rl p = erP t rl (cP t (sk t p))) ∨ (sk t p < rl ∧ cK t (sk t p) = 0 ∧ erP t rl p = ((cP t (sk t p) : Nat) : Int)) := by
  have hk := sk_ge t p
  have hb := @cP_b t (sk t p)
  have e : erP t rl p = if sk t p < rl then (if cK t (sk t p) = 1 then erS t rl rl (cP t (sk t p)) else ((cP t (sk t p) : Nat) : Int)) else -9 := rfl
  by_cases h : sk t p < rl
  · rw [if_pos h] at e
    by_cases q : cK t (sk t p) = 1
    · rw [if_pos q] at e
      exact Or.inr (Or.inl ⟨h, q, by rw [e]; exact erS_n _ _ _ (by omega) (by omega)⟩)
    · rw [if_neg q] at e
      exact Or.inr (Or.inr ⟨h, by omega, e⟩)
  · rw [if_neg h] at e; exact Or.inl ⟨h, e⟩
