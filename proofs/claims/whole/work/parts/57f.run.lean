
/-! a whole script's run upon the reference's state -/
theorem tx_lt {rc : Nat → Nat} {rl p : Nat} (h : p < rl) : tx rc rl p = rc p := if_pos h
theorem tx_in {rc : Nat → Nat} {rl p : Nat} (h : tx rc rl p < 999) : p < rl := by
  unfold tx at h
  by_cases q : p < rl
  · exact q
  · rw [if_neg q] at h; omega
theorem tx_b {rc : Nat → Nat} {rl : Nat} (h : ∀ k, rc k < 256) (p : Nat) : tx rc rl p < 1000 := by
  unfold tx; split
  · have := h p; omega
  · omega
def seV (t : Nat → Nat) (P : Nat) : Nat := if t P = 45 then nV t (nE t (P + 1) + 1) else lts t (nE t (P + 1) + 1)
theorem nV_b {t : Nat → Nat} {p : Nat} (h : 48 ≤ t p ∧ t p ≤ 57) : nV t p ≤ 99 := by
  rcases nE_f t p with q | q | q <;> omega
theorem cmd_f {t : Nat → Nat} {P : Nat} (h : cK t P = 1) : (t P = 43 ∨ t P = 45 ∨ t P = 60 ∨ t P = 62 ∨ t P = 64) ∧ nV t (P + 1) ≤ 99 ∧ (t P = 45 → seV t P = nV t (nE t (P + 1) + 1)) ∧ seV t P ≤ 99 ∧ (t P = 43 → seV t P = lts t (nE t (P + 1) + 1) ∧ 1 ≤ seV t P ∧ seV t P ≤ 8 ∧ t (nE t (P + 1) + 1 + seV t P) = 59) := by
  have hl := lts_le t (nE t (P + 1) + 1)
  by_cases h0 : t P = 43 ∨ t P = 45 ∨ t P = 60 ∨ t P = 62 ∨ t P = 64
  · by_cases h1 : 48 ≤ t (P + 1) ∧ t (P + 1) ≤ 57
    · have hn := nV_b h1
      by_cases h2 : t P = 45
      · have e : seV t P = nV t (nE t (P + 1) + 1) := if_pos h2
        refine ⟨h0, hn, fun _ => e, ?_, fun z => by omega⟩
        rcases cR_m h2 h1 with q | q | q | q
        · omega
        · omega
        · rw [e]; exact nV_b q.2.1
        · omega
      · have e : seV t P = lts t (nE t (P + 1) + 1) := if_neg h2
        refine ⟨h0, hn, fun z => absurd z h2, by omega, fun z => ?_⟩
        rcases cR_p z h1 with q | q | q | q
        · omega
        · omega
        · exact ⟨e, by omega, by omega, by rw [e]; exact q.2.2.1⟩
        · omega
    · have := cR_n h0 h1; omega
  · have := cR_s h0; omega
def cmT (t : Nat → Nat) (g : MS) (P : Nat) : MS × Bool := dos g.1 g.2.1 g.2.2.1 g.2.2.2.1 g.2.2.2.2.1 g.2.2.2.2.2.1 g.2.2.2.2.2.2.1 g.2.2.2.2.2.2.2.1 g.2.2.2.2.2.2.2.2.1 g.2.2.2.2.2.2.2.2.2 (t P) (nV t (P + 1)) (seV t P) (fun j => t (nE t (P + 1) + 1 + j))
theorem GD_cmT {t : Nat → Nat} {g : MS} {P : Nat} (h : GDt g) (hk : cK t P = 1) (ht : ∀ p, t p < 1000) : GDt (cmT t g P).1 := by
  have hf := cmd_f hk
  exact GD_dos h hf.1 (fun z => (hf.2.2.2.2 z).2.1) (fun k => by have := ht (nE t (P + 1) + 1 + k); omega)
def rnS (t : Nat → Nat) (rl : Nat) : Nat → Nat → MS → Nat → MS × Nat
  | 0, _, g, n => (g, n)
  | k + 1, p, g, n => if sk t p < rl ∧ cK t (sk t p) = 1 then rnS t rl k (cP t (sk t p)) (cmT t g (sk t p)).1 (n + (if (cmT t g (sk t p)).2 = true then 1 else 0)) else (g, n)
theorem rnS_n {t : Nat → Nat} {rl : Nat} : ∀ (k m p : Nat) (g : MS) (n : Nat), rl < k + p → rl < m + p → rnS t rl k p g n = rnS t rl m p g n := by
  intro k
  induction k with
  | zero =>
    intro m p g n h1 h2
    cases m with
    | zero => rfl
    | succ m =>
      have := sk_ge t p
      show (g, n) = if sk t p < rl ∧ cK t (sk t p) = 1 then _ else (g, n)
      rw [if_neg (fun z => by have := z.1; omega)]
  | succ k ih =>
    intro m p g n h1 h2
    have hk := sk_ge t p
    cases m with
    | zero =>
      show (if sk t p < rl ∧ cK t (sk t p) = 1 then _ else (g, n)) = (g, n)
      rw [if_neg (fun z => by have := z.1; omega)]
    | succ m =>
      show (if sk t p < rl ∧ cK t (sk t p) = 1 then rnS t rl k (cP t (sk t p)) _ _ else (g, n)) = (if sk t p < rl ∧ cK t (sk t p) = 1 then rnS t rl m (cP t (sk t p)) _ _ else (g, n))
      by_cases q : sk t p < rl ∧ cK t (sk t p) = 1
      · have hb := (@cP_b t (sk t p)).2.2.2 q.2
        rw [if_pos q, if_pos q]
        exact ih m (cP t (sk t p)) _ _ (by omega) (by omega)
      · rw [if_neg q, if_neg q]
def rn (t : Nat → Nat) (rl p : Nat) (g : MS) (n : Nat) : MS × Nat := rnS t rl (rl + 1) p g n
theorem rn_e {t : Nat → Nat} {rl p : Nat} {g : MS} {n : Nat} (h : ¬ (sk t p < rl ∧ cK t (sk t p) = 1)) : rn t rl p g n = (g, n) := if_neg h
theorem rn_s {t : Nat → Nat} {rl p P : Nat} {g : MS} {n : Nat} (hs : sk t p = P) (h1 : P < rl) (h2 : cK t P = 1) : rn t rl p g n = rn t rl (cP t P) (cmT t g P).1 (n + (if (cmT t g P).2 = true then 1 else 0)) := by
  subst hs
  have hk := sk_ge t p
  have hb := (@cP_b t (sk t p)).2.2.2 h2
  have e : rn t rl p g n = rnS t rl rl (cP t (sk t p)) (cmT t g (sk t p)).1 (n + (if (cmT t g (sk t p)).2 = true then 1 else 0)) := if_pos ⟨h1, h2⟩
  rw [e]; exact rnS_n _ _ _ _ _ (by omega) (by omega)
theorem rn_t {t : Nat → Nat} {rl p P : Nat} {g : MS} {n : Nat} (hs : sk t p = P) (h1 : P < rl) (h2 : cK t P = 1) (h3 : (cmT t g P).2 = true) : rn t rl (cP t P) (cmT t g P).1 (n + 1) = rn t rl p g n := by
  rw [rn_s hs h1 h2, if_pos h3]
theorem rn_f {t : Nat → Nat} {rl p P : Nat} {g : MS} {n : Nat} (hs : sk t p = P) (h1 : P < rl) (h2 : cK t P = 1) (h3 : ¬ (cmT t g P).2 = true) : rn t rl (cP t P) (cmT t g P).1 n = rn t rl p g n := by
  rw [rn_s hs h1 h2, if_neg h3]; rfl
theorem erS_b {t : Nat → Nat} {rl : Nat} : ∀ n p, erS t rl n p = -9 ∨ (0 ≤ erS t rl n p ∧ erS t rl n p ≤ (rl : Int) + 16) := by
  intro n
  induction n with
  | zero => intro p; exact Or.inl rfl
  | succ n ih =>
    intro p
    show (if sk t p < rl then (if cK t (sk t p) = 1 then erS t rl n (cP t (sk t p)) else ((cP t (sk t p) : Nat) : Int)) else -9) = -9 ∨ (0 ≤ (if sk t p < rl then (if cK t (sk t p) = 1 then erS t rl n (cP t (sk t p)) else ((cP t (sk t p) : Nat) : Int)) else -9) ∧ (if sk t p < rl then (if cK t (sk t p) = 1 then erS t rl n (cP t (sk t p)) else ((cP t (sk t p) : Nat) : Int)) else -9) ≤ (rl : Int) + 16)
    have hb := @cP_b t (sk t p)
    by_cases h : sk t p < rl
    · rw [if_pos h]
      by_cases q : cK t (sk t p) = 1
      · rw [if_pos q]; exact ih _
      · rw [if_neg q]; right; omega
    · rw [if_neg h]; exact Or.inl rfl
theorem erP_b (t : Nat → Nat) (rl p : Nat) : erP t rl p = -9 ∨ (0 ≤ erP t rl p ∧ erP t rl p ≤ (rl : Int) + 16) := erS_b _ _
theorem tx_fn {rc rd : Nat → Nat} {rl : Nat} (h : ∀ k, k < rl → rc k = rd k) : tx rc rl = tx rd rl := by
  funext p; unfold tx; split
  · exact h p (by assumption)
  · rfl
