
/-! what the reference's set tests say -/
theorem goP_congr {re ba : Nat → Nat} {ac st n : Nat} (h : ∀ k, k < n → re k = ba k) : alF (goP re ac st) n = alF (goP ba ac st) n := by
  induction n with
  | zero => rfl
  | succ n ih =>
    show (alF _ n && goP re ac st n) = (alF _ n && goP ba ac st n)
    rw [ih (fun k hk => h k (by omega))]; unfold goP; rw [h n (by omega)]
theorem coP_congr {re ba : Nat → Nat} {ac st n : Nat} (h : ∀ k, k < n → re k = ba k) : alF (coP re ac st) n = alF (coP ba ac st) n := by
  induction n with
  | zero => rfl
  | succ n ih =>
    show (alF _ n && coP re ac st n) = (alF _ n && coP ba ac st n)
    rw [ih (fun k hk => h k (by omega))]; unfold coP; rw [h n (by omega)]
theorem orF_bit (g : Nat → Nat) (n i : Nat) : (orF g n).testBit i = true ↔ ∃ k, k < n ∧ (g k).testBit i = true := by
  induction n with
  | zero => show (0 : Nat).testBit i = true ↔ _; rw [Nat.zero_testBit]; constructor; intro h; cases h; intro ⟨k, hk, _⟩; omega
  | succ n ih =>
    show (orF g n ||| g n).testBit i = true ↔ _
    rw [Nat.testBit_or, Bool.or_eq_true, ih]
    constructor
    · intro h; rcases h with ⟨k, hk, h⟩ | h
      · exact ⟨k, by omega, h⟩
      · exact ⟨n, by omega, h⟩
    · intro ⟨k, hk, h⟩
      by_cases e : k = n
      · subst e; exact Or.inr h
      · exact Or.inl ⟨k, by omega, h⟩
theorem dep_bit {ba : Nat → Nat} {n st i : Nat} : (dep ba n st).testBit i = true ↔ (i < n ∧ ¬ ba i &&& st = 0) := by
  unfold dep
  rw [orF_bit]
  constructor
  · intro ⟨k, hk, h⟩
    by_cases q : ba k &&& st = 0
    · rw [if_pos q, Nat.zero_testBit] at h; cases h
    · rw [if_neg q, Nat.testBit_two_pow] at h
      have := of_decide_eq_true h
      subst this; exact ⟨hk, q⟩
  · intro ⟨h1, h2⟩
    exact ⟨i, h1, by rw [if_neg h2, Nat.testBit_two_pow_self]⟩
theorem nd_zero {a b : Nat} : nd a b = 0 ↔ ∀ i, a.testBit i = true → b.testBit i = true := by
  constructor
  · intro h i hi
    have h1 : (nd a b).testBit i = false := by rw [h, Nat.zero_testBit]
    rw [nd_bit, hi] at h1
    cases hb : b.testBit i
    · rw [hb] at h1; cases h1
    · rfl
  · intro h
    apply Nat.eq_of_testBit_eq
    intro i
    rw [nd_bit, Nat.zero_testBit]
    cases ha : a.testBit i
    · rfl
    · rw [h i ha]; rfl
theorem go_iff {ba : Nat → Nat} {ac st n : Nat} : alF (goP ba ac st) n = true ↔ nd (dep ba n st &&& ac) st = 0 := by
  rw [alF_iff, nd_zero]
  constructor
  · intro h i hi
    rw [Nat.testBit_and, Bool.and_eq_true, dep_bit] at hi
    cases hs : st.testBit i
    · exact absurd (of_decide_eq_true (h i hi.1.1) ⟨hi.2, hs⟩) hi.1.2
    · rfl
  · intro h k hk
    refine decide_eq_true (fun q => ?_)
    by_cases z : ba k &&& st = 0
    · exact z
    · have := h k (by rw [Nat.testBit_and, Bool.and_eq_true, dep_bit]; exact ⟨⟨hk, z⟩, q.1⟩)
      rw [q.2] at this; cases this
theorem nee_bit {ba : Nat → Nat} {st n i : Nat} : (nee ba st n).testBit i = true ↔ ∃ k, k < n ∧ st.testBit k = true ∧ (ba k).testBit i = true := by
  unfold nee
  rw [orF_bit]
  constructor
  · intro ⟨k, hk, h⟩
    by_cases q : st.testBit k = true
    · rw [if_pos q] at h; exact ⟨k, hk, q, h⟩
    · rw [if_neg q, Nat.zero_testBit] at h; cases h
  · intro ⟨k, hk, q, h⟩
    exact ⟨k, hk, by rw [if_pos q]; exact h⟩
theorem co_iff {ba : Nat → Nat} {ac st n : Nat} : alF (coP ba ac st) n = true ↔ nd (nee ba st n) (ac ||| st) = 0 := by
  rw [alF_iff, nd_zero]
  constructor
  · intro h i hi
    obtain ⟨k, hk, h1, h2⟩ := nee_bit.mp hi
    have := nd_zero.mp (of_decide_eq_true (h k hk) h1) i h2
    rw [Nat.testBit_or] at this ⊢
    rw [Bool.or_comm]; exact this
  · intro h k hk
    refine decide_eq_true (fun q => nd_zero.mpr (fun i hi => ?_))
    have := h i (nee_bit.mpr ⟨k, hk, q, hi⟩)
    rw [Nat.testBit_or] at this ⊢
    rw [Bool.or_comm]; exact this
theorem lse_ct {ba : Nat → Nat} {en ac e : Nat} : ct ba en ac (2 ^ e) ↔ (ac.testBit e = true ∧ 2 ^ e ||| (dep ba en (2 ^ e) &&& ac) = 2 ^ e) := by
  unfold ct
  rw [nd_pow]
  constructor
  · intro h
    refine ⟨h.1, Nat.eq_of_testBit_eq (fun i => ?_)⟩
    rw [Nat.testBit_or]
    cases hd : (dep ba en (2 ^ e) &&& ac).testBit i
    · rw [Bool.or_false]
    · rw [nd_zero.mp h.2 i hd]; rfl
  · intro h
    refine ⟨h.1, nd_zero.mpr (fun i hi => ?_)⟩
    have := congrArg (fun z => z.testBit i) h.2
    simp only [Nat.testBit_or, hi, Bool.or_true] at this
    exact this.symm
def edR (au : Nat → Int) (er : Nat → Nat) (ac a n : Nat) : Nat := edw (omF au) er ac a n
theorem edR_t {au : Nat → Int} {er : Nat → Nat} {ac a n : Nat} (h : vis (omF au) er ac (a + n)) (h2 : ¬ au (a + n) = -1) (h3 : -1 ≤ au (a + n)) : edR au er ac a (n + 1) = (edR au er ac a n ||| 2 ^ (au (a + n)).toNat) ||| (er (a + n) &&& ac) := by
  unfold edR; rw [edw_t h, show omF au (a + n) = 2 ^ (au (a + n)).toNat from om_p (by omega), Nat.or_assoc, Nat.or_assoc, Nat.or_comm (er (a + n) &&& ac)]
theorem edR_v {au : Nat → Int} {er : Nat → Nat} {ac a n : Nat} (h2 : au (a + n) = -1) : edR au er ac a (n + 1) = (edR au er ac a n ||| 0) ||| (er (a + n) &&& ac) := by
  rw [Nat.or_zero]
  unfold edR
  have h0 : omF au (a + n) = 0 := om_n (by omega)
  by_cases h : vis (omF au) er ac (a + n)
  · rw [edw_t h, h0, Nat.or_zero]
  · rw [edw_f h]
theorem edR_f {au : Nat → Int} {er : Nat → Nat} {ac a n : Nat} (h : ¬ vis (omF au) er ac (a + n)) : edR au er ac a (n + 1) = (edR au er ac a n ||| 0) ||| (er (a + n) &&& ac) := by
  rw [Nat.or_zero]; unfold edR; rw [edw_f h]
theorem edR_lt {au : Nat → Int} {er : Nat → Nat} {ac a n : Nat} (hau : ∀ k, -1 ≤ au k ∧ au k < 16) (her : ∀ k, er k < 65536) : edR au er ac a n < 65536 := by
  refine orF_lt (fun k _ => or16 (Nat.lt_of_le_of_lt Nat.and_le_left (her _)) ?_)
  split
  · exact om_lt (hau _).2
  · omega
def clF (ba : Nat → Nat) (en ac st n : Nat) : Nat := orF (fun e => if st.testBit e = true then dep ba en (2 ^ e) &&& ac else 0) n
theorem clF_t {ba : Nat → Nat} {en ac st n : Nat} (h : st.testBit n = true) : clF ba en ac st (n + 1) = clF ba en ac st n ||| (dep ba en (2 ^ n) &&& ac) := by
  show clF ba en ac st n ||| (if st.testBit n = true then dep ba en (2 ^ n) &&& ac else 0) = _; rw [if_pos h]
theorem clF_f {ba : Nat → Nat} {en ac st n : Nat} (h : ¬ st.testBit n = true) : clF ba en ac st (n + 1) = clF ba en ac st n := by
  show clF ba en ac st n ||| (if st.testBit n = true then dep ba en (2 ^ n) &&& ac else 0) = _; rw [if_neg h, Nat.or_zero]
theorem and_ne {a b : Nat} (h : ¬ a &&& b = 0) : ∃ i, a.testBit i = true ∧ b.testBit i = true := by
  obtain ⟨i, hi⟩ := Nat.exists_testBit_of_ne_zero h
  rw [Nat.testBit_and, Bool.and_eq_true] at hi
  exact ⟨i, hi⟩
theorem clF_dep {ba : Nat → Nat} {en ac st : Nat} (hst : st < 2 ^ en) : clF ba en ac st en = dep ba en st &&& ac := by
  apply Nat.eq_of_testBit_eq
  intro i
  rw [Bool.eq_iff_iff, Nat.testBit_and, Bool.and_eq_true, dep_bit]
  unfold clF
  rw [orF_bit]
  constructor
  · intro ⟨k, hk, h⟩
    by_cases q : st.testBit k = true
    · rw [if_pos q, Nat.testBit_and, Bool.and_eq_true, dep_bit] at h
      refine ⟨⟨h.1.1, fun z => ?_⟩, h.2⟩
      obtain ⟨j, j1, j2⟩ := and_ne h.1.2
      rw [Nat.testBit_two_pow] at j2
      have := of_decide_eq_true j2
      subst this
      have h9 : (ba i &&& st).testBit k = true := by rw [Nat.testBit_and, j1, q]; rfl
      rw [z, Nat.zero_testBit] at h9; cases h9
    · rw [if_neg q, Nat.zero_testBit] at h; cases h
  · intro ⟨⟨h1, h2⟩, h3⟩
    obtain ⟨j, j1, j2⟩ := and_ne h2
    have hj : j < en := by
      rcases Nat.lt_or_ge j en with q | q
      · exact q
      · have := Nat.testBit_lt_two_pow (Nat.lt_of_lt_of_le hst (Nat.pow_le_pow_right (by omega) q)); rw [this] at j2; cases j2
    refine ⟨j, hj, ?_⟩
    rw [if_pos j2, Nat.testBit_and, Bool.and_eq_true, dep_bit]
    refine ⟨⟨h1, fun z => ?_⟩, h3⟩
    have h9 : (ba i &&& 2 ^ j).testBit j = true := by rw [Nat.testBit_and, j1, Nat.testBit_two_pow_self]; rfl
    rw [z, Nat.zero_testBit] at h9; cases h9
theorem pow_le16 {e : Nat} (h : e ≤ 16) : 2 ^ e ≤ 65536 := Nat.pow_le_pow_right (by omega) (show e ≤ 16 from h)
