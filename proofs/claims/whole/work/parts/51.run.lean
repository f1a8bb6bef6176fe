
/-! the longest stretch, found in one pass -/
def TR (q : Nat → Bool) (pl n : Nat) : Prop := n ≤ pl ∧ (∀ j, pl - n ≤ j → j < pl → q j = true) ∧ (n < pl → ¬ q (pl - n - 1) = true)
theorem stp_s0 {q : Nat → Bool} {pl a : Nat} (h : ¬ q pl = true) (ha : a ≤ pl) : stp q a (pl + 1) = stp q a pl := by
  have hl := stp_le q a pl
  refine stp_eq (fun j hj => stp_run hj) (by omega) (fun _ => ?_)
  by_cases e : stp q a pl < pl - a
  · exact stp_end e
  · rw [show a + stp q a pl = pl by omega]; exact h
theorem stp_s1 {q : Nat → Bool} {pl n a : Nat} (t : TR q pl n) (h : q pl = true) (h1 : pl - n ≤ a) (h2 : a ≤ pl) : stp q a (pl + 1) = pl + 1 - a := by
  refine stp_eq (fun j hj => ?_) (by omega) (fun z => by omega)
  by_cases e : a + j = pl
  · rw [e]; exact h
  · exact t.2.1 (a + j) (by omega) (by omega)
theorem stp_sl {q : Nat → Bool} {pl n a : Nat} (t : TR q pl n) (h1 : a < pl - n) : stp q a pl ≤ pl - n - 1 - a := by
  rcases Nat.lt_or_ge (pl - n - 1 - a) (stp q a pl) with z | z
  · have := stp_run z
    rw [show a + (pl - n - 1 - a) = pl - n - 1 by omega] at this
    exact absurd this (t.2.2 (by omega))
  · exact z
theorem stp_s2 {q : Nat → Bool} {pl n a : Nat} (t : TR q pl n) (h1 : a < pl - n) : stp q a (pl + 1) = stp q a pl := by
  have hl := stp_sl t h1
  exact stp_eq (fun j hj => stp_run hj) (by omega) (fun _ => stp_end (by omega))
theorem stp_s3 {q : Nat → Bool} {pl n a : Nat} (t : TR q pl n) (h1 : pl - n ≤ a) (h2 : a ≤ pl) : stp q a pl = pl - a := stp_eq (fun j hj => t.2.1 (a + j) (by omega) (by omega)) (by omega) (fun z => by omega)
def RI (q : Nat → Bool) (pl n best : Nat) (first : Int) : Prop := TR q pl n ∧ ∃ b : Nat, (∀ a, a < pl → stp q a pl ≤ best) ∧ (∀ a, a < b → stp q a pl < best) ∧ best = stp q b pl ∧ (b < pl ∨ (pl = 0 ∧ b = 0)) ∧ ((best = 0 ∧ first = -9) ∨ (0 < best ∧ first = (b : Int)))
theorem RI_0 {q : Nat → Bool} : RI q 0 0 0 (-9) := ⟨⟨Nat.le_refl 0, fun j _ h => absurd h (Nat.not_lt_zero j), fun h => absurd h (Nat.not_lt_zero 0)⟩, 0, fun a h => absurd h (Nat.not_lt_zero a), fun a h => absurd h (Nat.not_lt_zero a), rfl, Or.inr ⟨rfl, rfl⟩, Or.inl ⟨rfl, rfl⟩⟩
theorem RI_f {q : Nat → Bool} {pl n best : Nat} {first : Int} (h : RI q pl n best first) (hq : ¬ q pl = true) : RI q (pl + 1) 0 best first := by
  obtain ⟨t, b, h1, h2, h3, h4, h5⟩ := h
  refine ⟨⟨by omega, fun j g1 g2 => by omega, fun _ => by rw [show pl + 1 - 0 - 1 = pl by omega]; exact hq⟩, b, fun a ha => ?_, fun a ha => ?_, ?_, by omega, h5⟩
  · rw [stp_s0 hq (by omega)]
    by_cases e : a = pl
    · subst e; have := stp_le q a a; omega
    · exact h1 a (by omega)
  · rw [stp_s0 hq (by omega)]; exact h2 a ha
  · rw [stp_s0 hq (by omega)]; exact h3
theorem TR_t {q : Nat → Bool} {pl n : Nat} (t : TR q pl n) (hq : q pl = true) : TR q (pl + 1) (n + 1) := by
  refine ⟨by have := t.1; omega, fun j g1 g2 => ?_, fun g => ?_⟩
  · by_cases e : j = pl
    · rw [e]; exact hq
    · exact t.2.1 j (by omega) (by omega)
  · rw [show pl + 1 - (n + 1) - 1 = pl - n - 1 by omega]; exact t.2.2 (by omega)
theorem RI_n {q : Nat → Bool} {pl n best : Nat} {first : Int} (h : RI q pl n best first) (hq : q pl = true) (hb : best < n + 1) : RI q (pl + 1) (n + 1) (n + 1) ((pl : Int) - ((n + 1 : Nat) : Int) + 1) := by
  obtain ⟨t, b, h1, h2, h3, h4, h5⟩ := h
  have tn := t.1
  refine ⟨TR_t t hq, pl - n, fun a ha => ?_, fun a ha => ?_, ?_, by omega, Or.inr ⟨by omega, by omega⟩⟩
  · by_cases e : a < pl - n
    · rw [stp_s2 t e]; have := h1 a (by omega); omega
    · rw [stp_s1 t hq (by omega) (by omega)]; omega
  · rw [stp_s2 t ha]; have := h1 a (by omega); omega
  · rw [stp_s1 t hq (Nat.le_refl _) (by omega)]; omega
theorem RI_k {q : Nat → Bool} {pl n best : Nat} {first : Int} (h : RI q pl n best first) (hq : q pl = true) (hb : ¬ best < n + 1) : RI q (pl + 1) (n + 1) best first := by
  obtain ⟨t, b, h1, h2, h3, h4, h5⟩ := h
  have tn := t.1
  have hbn : b < pl - n := by
    rcases Nat.lt_or_ge b (pl - n) with z | z
    · exact z
    · exfalso
      have := stp_s3 t z (by omega)
      omega
  refine ⟨TR_t t hq, b, fun a ha => ?_, fun a ha => ?_, ?_, by omega, h5⟩
  · by_cases e : a < pl - n
    · rw [stp_s2 t e]; exact h1 a (by omega)
    · rw [stp_s1 t hq (by omega) (by omega)]; omega
  · rw [stp_s2 t (by omega)]; exact h2 a ha
  · rw [stp_s2 t hbn]; exact h3
theorem RI_e {q : Nat → Bool} {L n best : Nat} {first : Int} (h : RI q L n best first) : best = stp q (bst q L) L ∧ first = (if stp q (bst q L) L = 0 then -9 else ((bst q L : Nat) : Int)) := by
  obtain ⟨t, b, h1, h2, h3, h4, h5⟩ := h
  have e : bst q L = b := bst_eq (fun a ha => by rw [← h3]; exact h1 a ha) (fun a ha => by rw [← h3]; exact h2 a ha) (by omega)
  rw [e, ← h3]
  refine ⟨rfl, ?_⟩
  rcases h5 with z | z
  · rw [if_pos z.1]; exact z.2
  · rw [if_neg (by omega)]; exact z.2
