
/-! whole states: zeroed, kept, brought back -/
def zI (F : Nat → Int) (k : Nat) : Nat → Int := fun j => if j < k then 0 else F j
theorem zI_0 {F : Nat → Int} : zI F 0 = F := by funext j; exact if_neg (Nat.not_lt_zero j)
theorem zI_s {F : Nat → Int} {k : Nat} : up (zI F k) k 0 = zI F (k + 1) := by
  funext j; unfold up zI
  by_cases h1 : j = k
  · rw [if_pos h1, if_pos (by omega)]
  · rw [if_neg h1]
    by_cases h2 : j < k
    · rw [if_pos h2, if_pos (by omega)]
    · rw [if_neg h2, if_neg (by omega)]
theorem sF_z (j : Nat) : sF 0 0 0 0 (fun _ => 0) (fun _ => 0) (fun _ => 0) (fun _ => 0) (fun _ => 0) j = 0 := by
  unfold sF
  split
  · split; rfl; split; rfl; split <;> rfl
  · split; rfl; split; rfl; split; rfl; split <;> rfl
theorem cv_z {F : Nat → Int} : ∀ j, j < 516 → rI (zI F 516) j = rI (sF 0 0 0 0 (fun _ => 0) (fun _ => 0) (fun _ => 0) (fun _ => 0) (fun _ => 0)) j := by
  intro j hj
  show iI (zI F 516 j) = iI (sF 0 0 0 0 _ _ _ _ _ j)
  rw [sF_z]; unfold zI; rw [if_pos hj]
def pmI (k : Nat) : Nat → Int := fun j => if j < k then -1 else 0
theorem pmI_0 : pmI 0 = fun _ => 0 := by funext j; exact if_neg (Nat.not_lt_zero j)
theorem pmI_s {k : Nat} : up (pmI k) k (-1) = pmI (k + 1) := by
  funext j; unfold up pmI
  by_cases h1 : j = k
  · rw [if_pos h1, if_pos (by omega)]
  · rw [if_neg h1]
    by_cases h2 : j < k
    · rw [if_pos h2, if_pos (by omega)]
    · rw [if_neg h2, if_neg (by omega)]
theorem inI_s0 {f g : Nat → Int} {d : Nat} {v : Int} (hv : g d = v) : up (inI f 0 g d) d v = inI f 0 g (d + 1) := by
  have := @inI_s f g 0 d v hv
  rw [Nat.zero_add] at this
  exact this
theorem cv_in {F G sl : Nat → Int} {a : Nat} (h : ∀ j, j < 516 → sl (a + j) = G j) : ∀ j, j < 516 → rI (inI F 0 (fun j => sl (a + j)) 516) j = rI G j := by
  intro j hj
  show iI (inI F 0 (fun j => sl (a + j)) 516 j) = iI (G j)
  unfold inI
  rw [if_pos ⟨Nat.zero_le _, by omega⟩, Nat.sub_zero]
  exact ii (h j hj)
theorem in_at {sl F : Nat → Int} {a j : Nat} (hj : j < 516) : inI sl a F 516 (a + j) = F j := by
  unfold inI; rw [if_pos ⟨by omega, by omega⟩, show a + j - a = j by omega]
theorem cv_back {F G sl : Nat → Int} {a : Nat} : ∀ j, j < 516 → rI (inI G 0 (fun j => inI sl a F 516 (a + j)) 516) j = rI F j := cv_in (fun j hj => in_at hj)
theorem cv_sl {F G sl : Nat → Int} {a : Nat} (h : ∀ j, j < 516 → sl (a + j) = G j) : ∀ j, j < 1032 → rI (inI (inI sl a F 516) a G 516) j = rI sl j := by
  intro j hj
  show iI (inI (inI sl a F 516) a G 516 j) = iI (sl j)
  unfold inI
  by_cases q : a ≤ j ∧ j < a + 516
  · rw [if_pos q, ← h (j - a) (by omega), show a + (j - a) = j by omega]
  · rw [if_neg q, if_neg q]
theorem ix_at {p : Nat → Bool} {n k : Nat} {ix : Nat → Nat} (h : ixOK p n ix) (hk : k < n) (hp : p k = true) : ix (cnt p k) = k := by
  have h1 : cnt p (k + 1) ≤ cnt p n := cnt_mono p hk
  rw [cnt_t hp] at h1
  obtain ⟨g1, g2, g3⟩ := h (cnt p k) (by omega)
  rcases Nat.lt_trichotomy (ix (cnt p k)) k with q | q | q
  · have := cnt_mono p (show ix (cnt p k) + 1 ≤ k by omega); rw [cnt_t g2] at this; omega
  · exact q
  · have := cnt_mono p (show k + 1 ≤ ix (cnt p k) by omega); rw [cnt_t hp] at this; omega
theorem neb_min {a b : Nat → Nat} {n m : Nat} (h : ¬ m < n) : cnt (neb a b) (min (m + 1) n) = cnt (neb a b) (min m n) := by rw [show min (m + 1) n = n by omega, show min m n = n by omega]
theorem neb_t {a b : Nat → Nat} {n m : Nat} (h : m < n) (h2 : ¬ a m = b m) : cnt (neb a b) (min (m + 1) n) = cnt (neb a b) (min m n) + 1 := by rw [show min (m + 1) n = m + 1 by omega, show min m n = m by omega, cnt_t (show neb a b m = true from decide_eq_true h2)]
theorem neb_f {a b : Nat → Nat} {n m : Nat} (h : m < n) (h2 : a m = b m) : cnt (neb a b) (min (m + 1) n) = cnt (neb a b) (min m n) := by rw [show min (m + 1) n = m + 1 by omega, show min m n = m by omega, cnt_f (show ¬ neb a b m = true from fun q => (show a m ≠ b m from of_decide_eq_true q) h2)]
