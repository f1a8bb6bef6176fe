
/-! more words: stretches, prefixes, what lies within -/
theorem fsF_min {p : Nat → Bool} {n j : Nat} (h : j < fsF p n) : ¬ p j = true := by
  induction n with
  | zero => exact absurd h (Nat.not_lt_zero _)
  | succ n ih =>
    unfold fsF at h
    by_cases h1 : fsF p n < n
    · rw [if_pos h1] at h; exact ih h
    · rw [if_neg h1] at h
      have hn : fsF p n = n := Nat.le_antisymm (fsF_le p n) (Nat.not_lt.mp h1)
      by_cases h2 : p n = true
      · rw [if_pos h2] at h; exact ih (by omega)
      · rw [if_neg h2] at h
        rcases Nat.lt_or_eq_of_le (Nat.le_of_lt_succ h) with q | q
        · exact ih (by omega)
        · rw [q]; exact h2
theorem fsF_hit {p : Nat → Bool} {n : Nat} (h : fsF p n < n) : p (fsF p n) = true := by
  induction n with
  | zero => exact absurd h (Nat.not_lt_zero _)
  | succ n ih =>
    unfold fsF at h ⊢
    by_cases h1 : fsF p n < n
    · rw [if_pos h1]; exact ih h1
    · rw [if_neg h1] at h ⊢
      by_cases h2 : p n = true
      · rw [if_pos h2]; exact h2
      · rw [if_neg h2] at h; omega
theorem stp_le (q : Nat → Bool) (a n : Nat) : stp q a n ≤ n - a := fsF_le _ _
theorem stp_run {q : Nat → Bool} {a n j : Nat} (h : j < stp q a n) : q (a + j) = true := by
  have := fsF_min h
  cases hq : q (a + j)
  · rw [hq] at this; exact absurd rfl this
  · rfl
theorem stp_end {q : Nat → Bool} {a n : Nat} (h : stp q a n < n - a) : ¬ q (a + stp q a n) = true := by
  have h1 := fsF_hit h
  intro h2
  have h3 : (!q (a + stp q a n)) = true := h1
  rw [h2] at h3; cases h3
theorem stp_eq {q : Nat → Bool} {a n d : Nat} (h1 : ∀ j, j < d → q (a + j) = true) (h2 : d ≤ n - a) (h3 : d < n - a → ¬ q (a + d) = true) : stp q a n = d := by
  refine fsF_eq (fun j hj => ?_) h2 (fun h => ?_)
  · rw [h1 j hj]; simp
  · have := h3 h
    cases hq : q (a + d)
    · rfl
    · exact absurd hq this
theorem stp_in {q : Nat → Bool} {a n i : Nat} (h : i ≤ stp q a n) : stp q (a + i) n = stp q a n - i := by
  have hl := stp_le q a n
  refine stp_eq (fun j hj => ?_) (by omega) (fun h9 => ?_)
  · rw [Nat.add_assoc]; exact @stp_run q a n (i + j) (by omega)
  · rw [Nat.add_assoc, show i + (stp q a n - i) = stp q a n by omega]; exact stp_end (by omega)
def bst (q : Nat → Bool) (n : Nat) : Nat := fsF (fun a => (List.range n).all (fun z => decide (stp q z n ≤ stp q a n))) n
theorem bst_eq {q : Nat → Bool} {n b : Nat} (h1 : ∀ a, a < n → stp q a n ≤ stp q b n) (h2 : ∀ a, a < b → stp q a n < stp q b n) (h3 : b < n ∨ (n = 0 ∧ b = 0)) : bst q n = b := by
  unfold bst
  refine fsF_eq (fun j hj => ?_) (by omega) (fun h => ?_)
  · intro hall
    have := (List.all_eq_true.mp hall) b (List.mem_range.mpr (by omega))
    have := of_decide_eq_true this
    have := h2 j hj
    omega
  · exact List.all_eq_true.mpr (fun z hz => decide_eq_true (h1 z (List.mem_range.mp hz)))
def lgS (q : Nat → Bool) (n pl b lg : Nat) : Prop := pl ≤ n ∧ (lg = stp q b n ∨ (pl = 0 ∧ lg = 0 ∧ b = 0)) ∧ (∀ a, a < pl → stp q a n ≤ lg) ∧ (∀ a, a < b → stp q a n < lg) ∧ (b < pl ∨ b = 0)
theorem lgS_0 {q : Nat → Bool} {n : Nat} : lgS q n 0 0 0 := ⟨Nat.zero_le _, Or.inr ⟨rfl, rfl, rfl⟩, fun a h => absurd h (Nat.not_lt_zero _), fun a h => absurd h (Nat.not_lt_zero _), Or.inr rfl⟩
theorem stp_in2 {q : Nat → Bool} {n pl a : Nat} (h1 : pl ≤ a) (h2 : a < pl + max (stp q pl n) 1) : stp q a n ≤ stp q pl n := by
  have := @stp_in q pl n (a - pl) (by omega)
  rw [show pl + (a - pl) = a by omega] at this
  omega
theorem lgS_t {q : Nat → Bool} {n pl b lg : Nat} (h : lgS q n pl b lg) (hp : pl < n) (hs : lg < stp q pl n) : lgS q n (pl + max (stp q pl n) 1) pl (stp q pl n) := by
  obtain ⟨_, _, i3, i4, _⟩ := h
  have hl := stp_le q pl n
  refine ⟨by omega, Or.inl rfl, fun a ha => ?_, fun a ha => ?_, Or.inl (by omega)⟩
  · by_cases h1 : a < pl
    · have := i3 a h1; omega
    · exact stp_in2 (by omega) ha
  · have := i3 a ha; omega
theorem lgS_f {q : Nat → Bool} {n pl b lg : Nat} (h : lgS q n pl b lg) (hp : pl < n) (hs : ¬ lg < stp q pl n) : lgS q n (pl + max (stp q pl n) 1) b lg := by
  obtain ⟨_, i2, i3, i4, i5⟩ := h
  have hl := stp_le q pl n
  refine ⟨by omega, ?_, fun a ha => ?_, i4, by omega⟩
  · rcases i2 with e | ⟨e1, e2, e3⟩
    · exact Or.inl e
    · left; rw [e3, ← e1]; omega
  · by_cases h1 : a < pl
    · exact i3 a h1
    · have := @stp_in2 q n pl a (by omega) ha; omega
theorem lgS_e {q : Nat → Bool} {n pl b lg : Nat} (h : lgS q n pl b lg) (hp : ¬ pl < n) : b = bst q n := by
  obtain ⟨i1, i2, i3, i4, i5⟩ := h
  have hpl : pl = n := by omega
  subst hpl
  refine (bst_eq ?_ ?_ (by omega)).symm
  · intro a ha
    have := i3 a ha
    rcases i2 with e | ⟨e1, e2, e3⟩ <;> omega
  · intro a ha
    have := i4 a ha
    rcases i2 with e | ⟨e1, e2, e3⟩ <;> omega
theorem preF_0 {f g : Nat → Nat} : preF f g 0 = f := by funext j; exact if_neg (Nat.not_lt_zero j)
theorem preF_s {f g : Nat → Nat} {d : Nat} : up (preF f g d) d (g d) = preF f g (d + 1) := by
  funext j; unfold up preF
  by_cases h1 : j = d
  · rw [if_pos h1, if_pos (by omega), h1]
  · rw [if_neg h1]
    by_cases h2 : j < d
    · rw [if_pos h2, if_pos (by omega)]
    · rw [if_neg h2, if_neg (by omega)]
theorem preF_lt {f g : Nat → Nat} {d N : Nat} (hf : ∀ j, f j < N) (hg : ∀ j, g j < N) : ∀ j, preF f g d j < N := by
  intro j; unfold preF; split; exact hg j; exact hf j
theorem cnt_all {p : Nat → Bool} {n : Nat} (h : ∀ k, k < n → p k = true) : cnt p n = n := by
  induction n with
  | zero => rfl
  | succ n ih => rw [cnt_t (h n (by omega)), ih (fun k hk => h k (by omega))]
theorem cnt_pre {ow er : Nat → Nat} {n : Nat} : cnt (visb (preF ow (fun _ => 0) n) (preF er (fun _ => 0) n) 0) n = n := by
  refine cnt_all (fun k hk => vis_t ⟨?_, Nat.and_zero _⟩)
  show nd (preF ow (fun _ => 0) n k) 0 = 0
  have h1 : preF ow (fun _ => 0) n k = 0 := if_pos hk
  rw [h1]; rfl
theorem shF_lt {f : Nat → Nat} {b c t N : Nat} (hf : ∀ j, f j < N) : ∀ j, shF f b c t j < N := by
  intro j; unfold shF; split <;> exact hf _
theorem inR_lt {f g : Nat → Nat} {st d N : Nat} (hf : ∀ j, f j < N) (hg : ∀ j, g j < N) : ∀ j, inR f st g d j < N := by
  intro j; unfold inR; split; exact hg _; exact hf _
theorem up_up {f : Nat → Nat} {k a b : Nat} : up (up f k a) k b = up f k b := by
  funext j; unfold up; split <;> rfl
theorem bth_up {ba : Nat → Nat} {e x w : Nat} (h : w = 0 ∨ popc (w - 1) < e) : bth (up ba e x) w = bth ba w := by
  unfold bth
  split
  · rfl
  · rw [up_ne _ _ (by omega)]
theorem bth_lt {ba : Nat → Nat} {w : Nat} (h : ∀ k, ba k < 65536) (hw : w < 65536) : bth ba w < 65536 := by
  unfold bth; split; omega; exact or16 hw (h _)
theorem bthR_lt {ba ow ix : Nat → Nat} {f d : Nat} (h : ∀ k, ba k < 65536) (hw : ∀ k, ow k < 65536) : bthR ba ow ix f d < 65536 := orF_lt (fun k _ => bth_lt h (hw _))
def edw (ow er : Nat → Nat) (ac a n : Nat) : Nat := orF (fun j => (er (a + j) &&& ac) ||| (if vis ow er ac (a + j) then ow (a + j) else 0)) n
theorem edw_t {ow er : Nat → Nat} {ac a n : Nat} (h : vis ow er ac (a + n)) : edw ow er ac a (n + 1) = (edw ow er ac a n ||| (er (a + n) &&& ac)) ||| ow (a + n) := by
  show edw ow er ac a n ||| ((er (a + n) &&& ac) ||| (if vis ow er ac (a + n) then ow (a + n) else 0)) = _
  rw [if_pos h, Nat.or_assoc]
theorem edw_f {ow er : Nat → Nat} {ac a n : Nat} (h : ¬ vis ow er ac (a + n)) : edw ow er ac a (n + 1) = edw ow er ac a n ||| (er (a + n) &&& ac) := by
  show edw ow er ac a n ||| ((er (a + n) &&& ac) ||| (if vis ow er ac (a + n) then ow (a + n) else 0)) = _
  rw [if_neg h, Nat.or_zero]
def pla (ow er ix : Nat → Nat) (act q : Nat) : Int := if vis ow er act (ix q) then ((cnt (visb ow er act) (ix q) : Nat) : Int) else -9
def neb (a b : Nat → Nat) (k : Nat) : Bool := decide (a k ≠ b k)
