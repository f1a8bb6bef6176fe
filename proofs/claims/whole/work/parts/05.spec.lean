
/-! the words of the contracts -/
def cnt (p : Nat → Bool) : Nat → Nat
  | 0 => 0
  | n + 1 => cnt p n + (if p n = true then 1 else 0)
theorem cnt_le (p : Nat → Bool) (n : Nat) : cnt p n ≤ n := by
  induction n with
  | zero => exact Nat.le_refl 0
  | succ n ih => unfold cnt; split <;> omega
theorem cnt_mono (p : Nat → Bool) {a b : Nat} (h : a ≤ b) : cnt p a ≤ cnt p b := by
  induction h with
  | refl => exact Nat.le_refl _
  | step _ ih => exact Nat.le_trans ih (Nat.le_add_right _ _)
theorem cnt_congr {p q : Nat → Bool} {n : Nat} (h : ∀ k, k < n → p k = q k) : cnt p n = cnt q n := by
  induction n with
  | zero => rfl
  | succ n ih => unfold cnt; rw [ih (fun k hk => h k (by omega)), h n (by omega)]
theorem nd_le (a b : Nat) : nd a b ≤ a := by
  have h : nd a b &&& a = nd a b := Nat.eq_of_testBit_eq (fun i => by rw [Nat.testBit_and, nd_bit]; cases a.testBit i <;> simp)
  have := @Nat.and_le_right (nd a b) a
  omega
abbrev vis (ow er : Nat → Nat) (act k : Nat) : Prop := nd (ow k) act = 0 ∧ er k &&& act = 0
def visb (ow er : Nat → Nat) (act k : Nat) : Bool := decide (vis ow er act k)
theorem cnt_vt {ow er : Nat → Nat} {act k : Nat} (h : vis ow er act k) : cnt (visb ow er act) (k + 1) = cnt (visb ow er act) k + 1 := by
  show cnt (visb ow er act) k + (if visb ow er act k = true then 1 else 0) = _
  rw [if_pos (show visb ow er act k = true from decide_eq_true h)]
theorem cnt_vf {ow er : Nat → Nat} {act k : Nat} (h : ¬ vis ow er act k) : cnt (visb ow er act) (k + 1) = cnt (visb ow er act) k := by
  show cnt (visb ow er act) k + (if visb ow er act k = true then 1 else 0) = _
  rw [if_neg (show ¬ visb ow er act k = true from fun q => h (of_decide_eq_true q)), Nat.add_zero]
theorem hasE (a e : Nat) : (a &&& 2 ^ e = 0 ∧ a.testBit e = false) ∨ (a &&& 2 ^ e ≠ 0 ∧ a.testBit e = true) := by
  cases h : a.testBit e
  · refine Or.inl ⟨Nat.eq_of_testBit_eq (fun i => ?_), rfl⟩
    rw [Nat.testBit_and, Nat.testBit_two_pow, Nat.zero_testBit]
    by_cases hi : e = i
    · subst hi; rw [h]; rfl
    · simp [hi]
  · refine Or.inr ⟨fun h0 => ?_, rfl⟩
    have h1 : (a &&& 2 ^ e).testBit e = true := by rw [Nat.testBit_and, Nat.testBit_two_pow_self, h]; rfl
    rw [h0, Nat.zero_testBit] at h1
    cases h1
def rowAt (co : Nat → Nat) (ln : Nat) (o : Int) : Int := if 0 ≤ o ∧ o < (ln : Int) then (co o.toNat : Int) else -9
