/-! subsets by growing bits -/
theorem and2 {x y u v : Nat} (hu : u < 2) (hv : v < 2) : (2 * x + u) &&& (2 * y + v) = 2 * (x &&& y) + u * v := by
  apply Nat.eq_of_testBit_eq
  intro i
  cases i with
  | zero =>
    rw [Nat.testBit_and, Nat.testBit_zero, Nat.testBit_zero, Nat.testBit_zero]
    rcases (show u = 0 ∨ u = 1 by omega) with h | h <;> rcases (show v = 0 ∨ v = 1 by omega) with g | g <;> subst h <;> subst g <;> simp <;> omega
  | succ i =>
    rw [Nat.testBit_and, Nat.testBit_succ, Nat.testBit_succ, Nat.testBit_succ, show (2 * x + u) / 2 = x by omega, show (2 * y + v) / 2 = y by omega]
    have h2 : (2 * (x &&& y) + u * v) / 2 = x &&& y := by
      rcases (show u = 0 ∨ u = 1 by omega) with h | h <;> rcases (show v = 0 ∨ v = 1 by omega) with g | g <;> subst h <;> subst g <;> omega
    rw [h2, Nat.testBit_and]
/-- s lies in a -/
def sb (s a : Nat) : Prop := s &&& a = s
theorem sb2 {s a c b : Nat} (hc : c < 2) (hb : b < 2) : sb (2 * s + c) (2 * a + b) ↔ (sb s a ∧ c * b = c) := by
  unfold sb
  rw [and2 hc hb]
  constructor
  · intro h
    rcases (show c = 0 ∨ c = 1 by omega) with g | g <;> rcases (show b = 0 ∨ b = 1 by omega) with q | q <;> subst g <;> subst q <;> constructor <;> omega
  · intro h
    rw [h.1, h.2]
theorem sb_nd {s a : Nat} : sb s a ↔ nd s a = 0 := by
  unfold sb
  rw [nd_zero]
  constructor
  · intro h i hi
    have := congrArg (fun z => z.testBit i) h
    simp only [Nat.testBit_and, hi, Bool.true_and] at this
    exact this
  · intro h
    apply Nat.eq_of_testBit_eq
    intro i
    rw [Nat.testBit_and]
    cases hs : s.testBit i
    · rfl
    · rw [h i hs]; rfl
theorem sb_le {s a : Nat} (h : sb s a) : s ≤ a := by
  have := @Nat.and_le_right s a
  rw [h] at this; exact this
def nxW (w a s : Nat) : Nat := (s + (2 ^ w - a)) &&& a
theorem nx_pred : ∀ (w a s : Nat), a < 2 ^ w → sb s a → (s + (2 ^ w - a) - 1) &&& a = s := by
  intro w
  induction w with
  | zero =>
    intro a s ha hs
    have h0 : a = 0 := by rw [Nat.pow_zero] at ha; omega
    subst h0
    have := sb_le hs
    have h1 : s = 0 := by omega
    subst h1; simp
  | succ w ih =>
    intro a s ha hs
    rw [Nat.pow_succ] at ha
    obtain ⟨a', b, hb, rfl⟩ : ∃ a' b, b < 2 ∧ a = 2 * a' + b := ⟨a / 2, a % 2, by omega, by omega⟩
    obtain ⟨s', c, hc, rfl⟩ : ∃ s' c, c < 2 ∧ s = 2 * s' + c := ⟨s / 2, s % 2, by omega, by omega⟩
    obtain ⟨h1, h2⟩ := (sb2 hc hb).mp hs
    have hl := sb_le h1
    have hi := ih a' s' (by omega) h1
    rw [Nat.pow_succ]
    rcases (show c = 0 ∨ c = 1 by omega) with g | g <;> rcases (show b = 0 ∨ b = 1 by omega) with q | q <;> subst g <;> subst q
    · rw [show 2 * s' + 0 + (2 ^ w * 2 - (2 * a' + 0)) - 1 = 2 * (s' + (2 ^ w - a') - 1) + 1 by omega, and2 (by omega) (by omega), hi]
    · rw [show 2 * s' + 0 + (2 ^ w * 2 - (2 * a' + 1)) - 1 = 2 * (s' + (2 ^ w - a') - 1) + 0 by omega, and2 (by omega) (by omega), hi]
    · omega
    · rw [show 2 * s' + 1 + (2 ^ w * 2 - (2 * a' + 1)) - 1 = 2 * (s' + (2 ^ w - a') - 1) + 1 by omega, and2 (by omega) (by omega), hi]
/-- the i-th subset of a -/
def dD : Nat → Nat → Nat → Nat
  | 0, _, _ => 0
  | w + 1, a, i => if a % 2 = 1 then 2 * dD w (a / 2) (i / 2) + i % 2 else 2 * dD w (a / 2) i
def pW : Nat → Nat → Nat
  | 0, _ => 0
  | w + 1, a => pW w (a / 2) + a % 2
theorem dD_1 {w a i : Nat} : dD (w + 1) (2 * a + 1) i = 2 * dD w a (i / 2) + i % 2 := by
  show (if (2 * a + 1) % 2 = 1 then _ else _) = _
  rw [if_pos (by omega), show (2 * a + 1) / 2 = a by omega]
theorem dD_0 {w a i : Nat} : dD (w + 1) (2 * a) i = 2 * dD w a i := by
  show (if (2 * a) % 2 = 1 then _ else _) = _
  rw [if_neg (by omega), show (2 * a) / 2 = a by omega]
theorem pW_1 {w a : Nat} : pW (w + 1) (2 * a + 1) = pW w a + 1 := by
  show pW w ((2 * a + 1) / 2) + (2 * a + 1) % 2 = _
  rw [show (2 * a + 1) / 2 = a by omega, show (2 * a + 1) % 2 = 1 by omega]
theorem pW_0 {w a : Nat} : pW (w + 1) (2 * a) = pW w a := by
  show pW w ((2 * a) / 2) + (2 * a) % 2 = _
  rw [show (2 * a) / 2 = a by omega, show (2 * a) % 2 = 0 by omega]; rfl
theorem par_c (a : Nat) : (∃ b, a = 2 * b) ∨ ∃ b, a = 2 * b + 1 := by
  rcases (show a % 2 = 0 ∨ a % 2 = 1 by omega) with h | h
  · exact Or.inl ⟨a / 2, by omega⟩
  · exact Or.inr ⟨a / 2, by omega⟩
theorem dD_sb : ∀ (w a i : Nat), sb (dD w a i) a := by
  intro w
  induction w with
  | zero => intro a i; show (0 : Nat) &&& a = 0; exact Nat.zero_and a
  | succ w ih =>
    intro a i
    rcases par_c a with ⟨b, rfl⟩ | ⟨b, rfl⟩
    · rw [dD_0]; exact (sb2 (c := 0) (b := 0) (by omega) (by omega)).mpr ⟨ih b i, rfl⟩
    · rw [dD_1]; exact (sb2 (by omega) (by omega)).mpr ⟨ih b (i / 2), by omega⟩
theorem dD_sur : ∀ (w a s : Nat), a < 2 ^ w → sb s a → ∃ i, i < 2 ^ pW w a ∧ dD w a i = s := by
  intro w
  induction w with
  | zero =>
    intro a s ha hs
    have := sb_le hs
    exact ⟨0, by show 0 < 2 ^ 0; omega, by show 0 = s; rw [Nat.pow_zero] at ha; omega⟩
  | succ w ih =>
    intro a s ha hs
    rw [Nat.pow_succ] at ha
    obtain ⟨s', c, hc, rfl⟩ : ∃ s' c, c < 2 ∧ s = 2 * s' + c := ⟨s / 2, s % 2, by omega, by omega⟩
    rcases par_c a with ⟨b, rfl⟩ | ⟨b, rfl⟩
    · obtain ⟨h1, h2⟩ := (sb2 (b := 0) hc (by omega)).mp hs
      obtain ⟨i, hi, he⟩ := ih b s' (by omega) h1
      exact ⟨i, by rw [pW_0]; exact hi, by rw [dD_0, he]; omega⟩
    · obtain ⟨h1, h2⟩ := (sb2 hc (by omega)).mp hs
      obtain ⟨i, hi, he⟩ := ih b s' (by omega) h1
      exact ⟨2 * i + c, by rw [pW_1, Nat.pow_succ]; omega, by rw [dD_1, show (2 * i + c) / 2 = i by omega, he]; omega⟩
theorem dD_mono : ∀ (w a i j : Nat), j < 2 ^ pW w a → i < j → dD w a i < dD w a j := by
  intro w
  induction w with
  | zero => intro a i j hj hij; have hj : j < 2 ^ 0 := hj; rw [Nat.pow_zero] at hj; omega
  | succ w ih =>
    intro a i j hj hij
    rcases par_c a with ⟨b, rfl⟩ | ⟨b, rfl⟩
    · rw [pW_0] at hj; rw [dD_0, dD_0]; have := ih b i j hj hij; omega
    · rw [pW_1, Nat.pow_succ] at hj
      rw [dD_1, dD_1]
      by_cases e : i / 2 = j / 2
      · rw [e]; omega
      · have := ih b (i / 2) (j / 2) (by omega) (by omega); omega
theorem dD_0i : ∀ (w a : Nat), dD w a 0 = 0 := by
  intro w
  induction w with
  | zero => intro a; rfl
  | succ w ih =>
    intro a
    rcases par_c a with ⟨b, rfl⟩ | ⟨b, rfl⟩
    · rw [dD_0, ih]
    · rw [dD_1, ih]
theorem dD_nx : ∀ (w a i : Nat), a < 2 ^ w → i + 1 < 2 ^ pW w a → nxW w a (dD w a i) = dD w a (i + 1) := by
  intro w
  induction w with
  | zero => intro a i ha hi; have hi : i + 1 < 2 ^ 0 := hi; rw [Nat.pow_zero] at hi; omega
  | succ w ih =>
    intro a i ha hi
    rw [Nat.pow_succ] at ha
    unfold nxW
    rw [Nat.pow_succ]
    rcases par_c a with ⟨b, rfl⟩ | ⟨b, rfl⟩
    · rw [pW_0] at hi
      have hl := sb_le (dD_sb w b i)
      have := ih b i (by omega) hi
      unfold nxW at this
      rw [dD_0, dD_0, show 2 * dD w b i + (2 ^ w * 2 - 2 * b) = 2 * (dD w b i + (2 ^ w - b)) + 0 by omega, show 2 * b = 2 * b + 0 by omega, and2 (by omega) (by omega), this, Nat.zero_mul, Nat.add_zero]
    · rw [pW_1, Nat.pow_succ] at hi
      have hl := sb_le (dD_sb w b (i / 2))
      rcases (show i % 2 = 0 ∨ i % 2 = 1 by omega) with p0 | p1
      · have := nx_pred w b (dD w b (i / 2)) (by omega) (dD_sb w b (i / 2))
        rw [dD_1, dD_1, p0, show 2 * dD w b (i / 2) + 0 + (2 ^ w * 2 - (2 * b + 1)) = 2 * (dD w b (i / 2) + (2 ^ w - b) - 1) + 1 by omega, and2 (by omega) (by omega), this, show (i + 1) / 2 = i / 2 by omega, show (i + 1) % 2 = 1 by omega]
      · have := ih b (i / 2) (by omega) (by omega)
        unfold nxW at this
        rw [dD_1, dD_1, p1, show 2 * dD w b (i / 2) + 1 + (2 ^ w * 2 - (2 * b + 1)) = 2 * (dD w b (i / 2) + (2 ^ w - b)) + 0 by omega, and2 (by omega) (by omega), this, show (i + 1) / 2 = i / 2 + 1 by omega, show (i + 1) % 2 = 0 by omega]
theorem cnt_shift (p : Nat → Bool) (n : Nat) : cnt p (n + 1) = (if p 0 = true then 1 else 0) + cnt (fun k => p (k + 1)) n := by
  induction n with
  | zero => show 0 + _ = _ + 0; rw [Nat.zero_add, Nat.add_zero]
  | succ n ih => show cnt p (n + 1) + _ = _ + (cnt (fun k => p (k + 1)) n + _); rw [ih, Nat.add_assoc]
theorem pW_cnt : ∀ (w a : Nat), pW w a = cnt (fun k => a.testBit k) w := by
  intro w
  induction w with
  | zero => intro a; rfl
  | succ w ih =>
    intro a
    rw [cnt_shift]
    show pW w (a / 2) + a % 2 = _
    rw [ih (a / 2), Nat.add_comm]
    congr 1
    · rw [Nat.testBit_zero]
      rcases (show a % 2 = 0 ∨ a % 2 = 1 by omega) with h | h <;> rw [h] <;> rfl
    · exact cnt_congr (fun k _ => by rw [Nat.testBit_succ])
theorem pW_popc (a : Nat) : pW 16 a = popc a := pW_cnt 16 a
def nxs (a s : Nat) : Nat := (s + (65536 - a)) &&& a
theorem dD_nxs {a i : Nat} (ha : a < 65536) (hi : i + 1 < 2 ^ popc a) : nxs a (dD 16 a i) = dD 16 a (i + 1) := dD_nx 16 a i ha (by rw [pW_popc]; exact hi)
theorem and_low {y k a : Nat} (ha : a < 65536) : (y + 65536 * k) &&& a = y &&& a := by
  apply Nat.eq_of_testBit_eq
  intro i
  rw [Nat.testBit_and, Nat.testBit_and]
  by_cases h : i < 16
  · have e1 := Nat.testBit_mod_two_pow (y + 65536 * k) 16 i
    have e2 := Nat.testBit_mod_two_pow y 16 i
    rw [show (y + 65536 * k) % 2 ^ 16 = y % 2 ^ 16 by omega] at e1
    simp only [h, decide_true, Bool.true_and] at e1 e2
    rw [← e1, ← e2]
  · rw [Nat.testBit_lt_two_pow (show a < 2 ^ i from Nat.lt_of_lt_of_le (show a < 2 ^ 16 from ha) (Nat.pow_le_pow_right (by decide) (Nat.le_of_not_lt h))), Bool.and_false, Bool.and_false]
theorem iI_wrap (t : Int) : iI (t + 4294967296) = iI t := by
  rw [← iI_add]
  have h : iI 4294967296 = 0 := rfl
  rw [h, Int32.add_zero]
theorem iI_nxs {a s : Nat} (ha : a < 65536) : iI ((s : Int) - (a : Int)) &&& iI (a : Int) = iI ((nxs a s : Nat) : Int) := by
  rw [← iI_wrap, show (s : Int) - (a : Int) + 4294967296 = ((s + (65536 - a) + 65536 * 65535 : Nat) : Int) by omega, iI_and, and_low ha]
  rfl
