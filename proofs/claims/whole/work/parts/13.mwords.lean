
/-! more words for the reference -/
section DIR
variable {au : Nat → Int} {er ki : Nat → Nat} {bs : Nat → Int}
theorem dir_a {e : Nat} (h : ki e = 0) (h2 : ¬ bs e = -1) : dir au er ki bs 0 e = 2 ^ (bs e).toNat := by
  unfold dir; rw [if_pos ⟨h, h2⟩]; exact Nat.or_zero _
theorem dir_b {e : Nat} (h : ¬ (ki e = 0 ∧ ¬ bs e = -1)) : dir au er ki bs 0 e = 0 := by
  unfold dir; rw [if_neg h]; exact Nat.or_zero _
theorem dir_s1 {e k : Nat} (h : (er k).testBit e = true) (h2 : ¬ au k = -1) : dir au er ki bs (k + 1) e = dir au er ki bs k e ||| 2 ^ (au k).toNat := by
  have e1 : (if (er k).testBit e = true ∧ ¬ au k = -1 then 2 ^ (au k).toNat else 0) = 2 ^ (au k).toNat := if_pos ⟨h, h2⟩
  unfold dir; simp only [orF, e1, Nat.or_assoc]
theorem dir_s0 {e k : Nat} (h : ¬ ((er k).testBit e = true ∧ ¬ au k = -1)) : dir au er ki bs (k + 1) e = dir au er ki bs k e := by
  have e1 : (if (er k).testBit e = true ∧ ¬ au k = -1 then 2 ^ (au k).toNat else 0) = 0 := if_neg h
  unfold dir; simp only [orF, e1, Nat.or_zero]
theorem dir_lt {e n : Nat} (hau : ∀ k, -1 ≤ au k ∧ au k < 16) (hbs : ∀ k, -1 ≤ bs k ∧ bs k < 16) : dir au er ki bs n e < 65536 := by
  refine or16 ?_ (orF_lt (fun k _ => ?_))
  · split
    · exact pow16 (by have := hbs e; omega)
    · omega
  · split
    · exact pow16 (by have := hau k; omega)
    · omega
end DIR
theorem thr_t {ba : Nat → Nat} {d b : Nat} (h : d.testBit b = true) : thr ba d (b + 1) = thr ba d b ||| ba b := by
  show thr ba d b ||| (if d.testBit b = true then ba b else 0) = _; rw [if_pos h]
theorem thr_f {ba : Nat → Nat} {d b : Nat} (h : ¬ d.testBit b = true) : thr ba d (b + 1) = thr ba d b := by
  show thr ba d b ||| (if d.testBit b = true then ba b else 0) = _; rw [if_neg h, Nat.or_zero]
theorem thr_lt {ba : Nat → Nat} {d n : Nat} (h : ∀ k, ba k < 65536) : thr ba d n < 65536 := orF_lt (fun k _ => by split; exact h k; omega)
theorem thr_congr {ba re : Nat → Nat} {d n : Nat} (h : ∀ k, k < n → re k = ba k) : thr re d n = thr ba d n := orF_congr (fun k hk => by rw [h k hk])
theorem dep_congr {ba re : Nat → Nat} {st n : Nat} (h : ∀ k, k < n → re k = ba k) : dep re n st = dep ba n st := orF_congr (fun k hk => by rw [h k hk])
theorem dep_tb {ba : Nat → Nat} {n e : Nat} (h : (ba n).testBit e = true) : dep ba (n + 1) (2 ^ e) = dep ba n (2 ^ e) ||| 2 ^ n := dep_t (fun q => by rcases hasE (ba n) e with h1 | h1; rw [h] at h1; cases h1.2; exact h1.1 q)
theorem dep_fb {ba : Nat → Nat} {n e : Nat} (h : ¬ (ba n).testBit e = true) : dep ba (n + 1) (2 ^ e) = dep ba n (2 ^ e) := dep_f (by rcases hasE (ba n) e with h1 | h1; exact h1.1; exact absurd h1.2 h)
def alF (p : Nat → Bool) : Nat → Bool
  | 0 => true
  | n + 1 => alF p n && p n
theorem alF_iff (p : Nat → Bool) (n : Nat) : alF p n = true ↔ ∀ k, k < n → p k = true := by
  induction n with
  | zero => exact ⟨fun _ k hk => absurd hk (Nat.not_lt_zero k), fun _ => rfl⟩
  | succ n ih =>
    show (alF p n && p n) = true ↔ _
    rw [Bool.and_eq_true, ih]
    constructor
    · intro h k hk
      rcases Nat.lt_or_eq_of_le (Nat.le_of_lt_succ hk) with q | q
      · exact h.1 k q
      · rw [q]; exact h.2
    · intro h; exact ⟨fun k hk => h k (by omega), h n (by omega)⟩
theorem alF_t {p : Nat → Bool} {n : Nat} (h : alF p n = true) (h2 : p n = true) : alF p (n + 1) = true := by show (alF p n && p n) = true; rw [h, h2]; rfl
theorem alF_f1 {p : Nat → Bool} {n : Nat} (h : ¬ alF p n = true) : ¬ alF p (n + 1) = true := fun q => h (by have q : (alF p n && p n) = true := q; rw [Bool.and_eq_true] at q; exact q.1)
theorem alF_f2 {p : Nat → Bool} {n : Nat} (h : ¬ p n = true) : ¬ alF p (n + 1) = true := fun q => h (by have q : (alF p n && p n) = true := q; rw [Bool.and_eq_true] at q; exact q.2)
def goP (re : Nat → Nat) (ac st f : Nat) : Bool := decide ((ac.testBit f = true ∧ st.testBit f = false) → re f &&& st = 0)
def coP (re : Nat → Nat) (ac st f : Nat) : Bool := decide (st.testBit f = true → nd (re f) (st ||| ac) = 0)
theorem tch_om {au : Nat → Int} {er : Nat → Nat} {e k : Nat} : tch (omF au) er e k = true ↔ (au k = (e : Int) ∨ (er k).testBit e = true) := by
  unfold tch omF
  rw [Nat.testBit_or, Bool.or_eq_true]
  by_cases h : au k < 0
  · rw [om_n h, Nat.zero_testBit]; constructor
    · intro q; rcases q with q | q; cases q; exact Or.inr q
    · intro q; rcases q with q | q; omega; exact Or.inr q
  · rw [om_p h, Nat.testBit_two_pow]
    constructor
    · intro q; rcases q with q | q
      · have := of_decide_eq_true q; exact Or.inl (by omega)
      · exact Or.inr q
    · intro q; rcases q with q | q
      · exact Or.inl (decide_eq_true (by omega))
      · exact Or.inr q
