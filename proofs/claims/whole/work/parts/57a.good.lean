
/-! what holds of the reference's state in every run, with ba: what each edit rests on -/
def GD (cn en ac cu : Nat) (co : Nat → Nat) (au : Nat → Int) (er ki : Nat → Nat) (bs : Nat → Int) (ba : Nat → Nat) : Prop :=
  (cn ≤ 160 ∧ en ≤ 16 ∧ ac < 2 ^ en ∧ cnt (visb (omF au) er ac) cn ≤ 60 ∧ cu ≤ cnt (visb (omF au) er ac) cn) ∧
  ((∀ k, co k < 65536) ∧ (∀ k, -1 ≤ au k ∧ au k < 16) ∧ (∀ k, er k < 65536) ∧ (∀ k, ki k ≤ 1) ∧ (∀ k, -1 ≤ bs k ∧ bs k < 16) ∧ (∀ k, ba k < 65536)) ∧
  ((∀ k, k < cn → au k < (en : Int)) ∧ (∀ k, k < cn → er k < 2 ^ en) ∧ (∀ k e : Nat, k < cn → (er k).testBit e = true → au k < (e : Int)) ∧ (∀ e, e < en → bs e < (e : Int)) ∧ (∀ e, e < en → ba e < 2 ^ e)) ∧
  RQ au er ki bs cn en ba ∧ (∀ e k : Nat, k < cn → au k = (e : Int) → ki e = 0) ∧ (∀ e, e < en → ∃ k, k < cn ∧ tch (omF au) er e k = true) ∧ ∀ e k : Nat, k < cn → (er k).testBit e = true → ki e = 1
theorem tb_lt {a n i : Nat} (h : a < 2 ^ n) (hi : a.testBit i = true) : i < n := by
  rcases Nat.lt_or_ge i n with q | q
  · exact q
  · have := Nat.testBit_lt_two_pow (Nat.lt_of_lt_of_le h (Nat.pow_le_pow_right (by omega) q)); rw [this] at hi; cases hi
theorem lt_tb {a n : Nat} (h : ∀ i, a.testBit i = true → i < n) : a < 2 ^ n := Nat.lt_pow_two_of_testBit a (fun i hi => by
  cases q : a.testBit i
  · rfl
  · have := h i q; omega)
theorem or_lt {a b n : Nat} (ha : a < 2 ^ n) (hb : b < 2 ^ n) : a ||| b < 2 ^ n := Nat.or_lt_two_pow ha hb
theorem p2_lt {e n : Nat} (h : e < n) : 2 ^ e < 2 ^ n := Nat.pow_lt_pow_right (by omega) h
theorem p2_tb {e i : Nat} : (2 ^ e).testBit i = true ↔ e = i := by rw [Nat.testBit_two_pow]; exact ⟨of_decide_eq_true, decide_eq_true⟩
theorem om_lt2 {a : Int} {n : Nat} (h : a < (n : Int)) : om a < 2 ^ n := by
  unfold om; split
  · exact Nat.two_pow_pos n
  · exact p2_lt (by omega)
theorem popc_p : ∀ b : Fin 16, popc (2 ^ b.val - 1) = b.val := by decide +kernel
theorem popc_pow {b : Nat} (h : b < 16) : popc (2 ^ b - 1) = b := popc_p ⟨b, h⟩
/-- one character's visibility -/
def vb (w r act : Nat) : Bool := decide (nd w act = 0 ∧ r &&& act = 0)
theorem visb_vb (ow er : Nat → Nat) (act k : Nat) : visb ow er act k = vb (ow k) (er k) act := rfl
theorem vb_grow {w r ac en : Nat} (h1 : w < 2 ^ en) (h2 : r < 2 ^ en) : vb w r (ac ||| 2 ^ en) = vb w r ac := by
  rw [Bool.eq_iff_iff]
  unfold vb
  rw [decide_eq_true_iff, decide_eq_true_iff, nd_zero, nd_zero, nd_and, nd_and]
  have key : ∀ {a i : Nat}, a < 2 ^ en → a.testBit i = true → (ac ||| 2 ^ en).testBit i = ac.testBit i := fun {a i} ha hi => by
    have := tb_lt ha hi
    rw [Nat.testBit_or, Nat.testBit_two_pow, decide_eq_false (by omega), Bool.or_false]
  constructor
  · intro h; exact ⟨fun i hi => by rw [← key h1 hi]; exact h.1 i hi, fun i hi => by rw [← key h2 hi]; exact h.2 i hi⟩
  · intro h; exact ⟨fun i hi => by rw [key h1 hi]; exact h.1 i hi, fun i hi => by rw [key h2 hi]; exact h.2 i hi⟩
theorem vb_new (ac en : Nat) : vb (2 ^ en) 0 (ac ||| 2 ^ en) = true := decide_eq_true ⟨(nd_pow en _).mpr (by rw [Nat.testBit_or, Nat.testBit_two_pow_self, Bool.or_true]), Nat.zero_and _⟩
theorem vb_gone {w r ac en : Nat} : vb w (r ||| 2 ^ en) (ac ||| 2 ^ en) = false := decide_eq_false (fun h => by
  have h1 := congrArg (fun z => z.testBit en) h.2
  simp only [Nat.testBit_and, Nat.testBit_or, Nat.testBit_two_pow_self, Bool.or_true, Bool.and_true, Nat.zero_testBit] at h1
  cases h1)
theorem cnt_imp {p q : Nat → Bool} {n : Nat} (h : ∀ k, k < n → p k = true → q k = true) : cnt p n ≤ cnt q n := by
  induction n with
  | zero => exact Nat.le_refl 0
  | succ n ih =>
    have i0 := ih (fun k hk => h k (by omega))
    by_cases e : p n = true
    · rw [cnt_t e, cnt_t (h n (by omega) e)]; omega
    · rw [cnt_f e]; have := cnt_mono q (show n ≤ n + 1 by omega); omega
theorem cnt_ins {p p' : Nat → Bool} {st c : Nat} (h1 : ∀ j, j < st → p' j = p j) (h2 : ∀ j, st ≤ j → j < st + c → p' j = true) : ∀ m, (∀ j, st ≤ j → j < st + m → p' (j + c) = p j) → cnt p' (st + m + c) = cnt p (st + m) + c := by
  intro m
  induction m with
  | zero =>
    intro _
    have key : ∀ d, d ≤ c → cnt p' (st + d) = cnt p st + d := by
      intro d
      induction d with
      | zero => intro _; exact cnt_congr (fun k hk => h1 k hk)
      | succ d ih => intro hd; rw [show st + (d + 1) = (st + d) + 1 by omega, cnt_t (h2 _ (by omega) (by omega)), ih (by omega)]; omega
    exact key c (Nat.le_refl c)
  | succ m ih =>
    intro h3
    have e := ih (fun j a b => h3 j a (by omega))
    have e3 := h3 (st + m) (by omega) (by omega)
    rw [show st + (m + 1) + c = (st + m + c) + 1 by omega, show st + (m + 1) = (st + m) + 1 by omega]
    cases hp : p (st + m)
    · rw [cnt_f (show ¬ p' (st + m + c) = true by rw [e3, hp]; exact Bool.false_ne_true), cnt_f (show ¬ p (st + m) = true by rw [hp]; exact Bool.false_ne_true), e]
    · rw [cnt_t (show p' (st + m + c) = true by rw [e3, hp]), cnt_t hp, e]; omega
theorem cnt_ex {p : Nat → Bool} {n j : Nat} (h : j < cnt p n) : ∃ k, k < n ∧ p k = true ∧ cnt p k = j := by
  induction n with
  | zero => exact absurd h (Nat.not_lt_zero j)
  | succ n ih =>
    by_cases e : p n = true
    · rw [cnt_t e] at h
      by_cases q : j = cnt p n
      · exact ⟨n, by omega, e, q.symm⟩
      · obtain ⟨k, a, b, c⟩ := ih (by omega); exact ⟨k, by omega, b, c⟩
    · rw [cnt_f e] at h
      obtain ⟨k, a, b, c⟩ := ih h; exact ⟨k, by omega, b, c⟩
theorem nv_ok (p : Nat → Bool) (n : Nat) : ixOK p n (nv p n) := fun j hj => by
  obtain ⟨k, a, b, c⟩ := cnt_ex hj
  rw [nv_eq a b c]; exact ⟨a, b, c⟩
theorem ix_nv {p : Nat → Bool} {n j : Nat} {ix : Nat → Nat} (h : ixOK p n ix) (hj : j < cnt p n) : ix j = nv p n j := by
  obtain ⟨a, b, c⟩ := h j hj; exact (nv_eq a b c).symm
theorem ixOK_congr {p q : Nat → Bool} {n : Nat} {ix : Nat → Nat} (h : ∀ k, k < n → p k = q k) (hp : ixOK p n ix) : ixOK q n ix := fun j hj => by
  obtain ⟨a, b, c⟩ := hp j (by rw [cnt_congr h]; exact hj)
  exact ⟨a, by rw [← h _ a]; exact b, by rw [← cnt_congr (fun k hk => h k (by omega))]; exact c⟩
theorem ix_mono {p : Nat → Bool} {n i j : Nat} {ix : Nat → Nat} (h : ixOK p n ix) (hij : i ≤ j) (hj : j < cnt p n) : ix i ≤ ix j := by
  obtain ⟨a, b, c⟩ := h j hj
  obtain ⟨a', b', c'⟩ := h i (by omega)
  rcases Nat.lt_or_ge (ix j) (ix i) with q | q
  · have := cnt_mono p (show ix j + 1 ≤ ix i from q); rw [cnt_t b] at this; omega
  · exact q
/-- rows with c characters put at st -/
theorem in_lo {f g : Nat → Nat} {st c t j : Nat} (h : j < st) : inR (shF f st c t) st g c j = f j := by
  unfold inR shF; rw [if_neg (by omega), if_neg (by omega)]
theorem in_mi {f g : Nat → Nat} {st c t j : Nat} (h : st ≤ j) (h2 : j < st + c) : inR (shF f st c t) st g c j = g (j - st) := by
  unfold inR; rw [if_pos ⟨h, h2⟩]
theorem in_hi {f g : Nat → Nat} {st c t j : Nat} (h : st ≤ j) (h2 : j < t) : inR (shF f st c t) st g c (j + c) = f j := by
  unfold inR shF; rw [if_neg (by omega), if_pos (by omega), show j + c - c = j by omega]
theorem im_lo {f g : Nat → Int} {st c t j : Nat} (h : j < st) : inI (shI f st c t) st g c j = f j := by
  unfold inI shI; rw [if_neg (by omega), if_neg (by omega)]
theorem im_mi {f g : Nat → Int} {st c t j : Nat} (h : st ≤ j) (h2 : j < st + c) : inI (shI f st c t) st g c j = g (j - st) := by
  unfold inI; rw [if_pos ⟨h, h2⟩]
theorem im_hi {f g : Nat → Int} {st c t j : Nat} (h : st ≤ j) (h2 : j < t) : inI (shI f st c t) st g c (j + c) = f j := by
  unfold inI shI; rw [if_neg (by omega), if_pos (by omega), show j + c - c = j by omega]
theorem in_c {st c t j : Nat} (hst : st ≤ t) (hj : j < t + c) : j < st ∨ (st ≤ j ∧ j < st + c) ∨ ∃ k, st ≤ k ∧ k < t ∧ j = k + c := by
  by_cases h1 : j < st
  · exact Or.inl h1
  · by_cases h2 : j < st + c
    · exact Or.inr (Or.inl ⟨by omega, h2⟩)
    · exact Or.inr (Or.inr ⟨j - c, by omega, by omega, by omega⟩)
theorem inI_r {f g : Nat → Int} {st d : Nat} (hf : ∀ k, -1 ≤ f k ∧ f k < 16) (hg : ∀ k, -1 ≤ g k ∧ g k < 16) : ∀ j, -1 ≤ inI f st g d j ∧ inI f st g d j < 16 := by
  intro j; unfold inI; split; exact hg _; exact hf _
theorem in_cong {f f' g g' : Nat → Nat} {st c t : Nat} (hst : st ≤ t) (hf : ∀ k, k < t → f k = f' k) (hg : ∀ i, i < c → g i = g' i) : ∀ j, j < t + c → inR (shF f st c t) st g c j = inR (shF f' st c t) st g' c j := by
  intro j hj
  rcases in_c hst hj with h | ⟨h, h2⟩ | ⟨k, h, h2, rfl⟩
  · rw [in_lo h, in_lo h, hf j (by omega)]
  · rw [in_mi h h2, in_mi h h2, hg _ (by omega)]
  · rw [in_hi h h2, in_hi h h2, hf k h2]
theorem dir_bit {au : Nat → Int} {er ki : Nat → Nat} {bs : Nat → Int} {cn e i : Nat} : (dir au er ki bs cn e).testBit i = true ↔ ((ki e = 0 ∧ ¬ bs e = -1 ∧ (bs e).toNat = i) ∨ ∃ k, k < cn ∧ (er k).testBit e = true ∧ ¬ au k = -1 ∧ (au k).toNat = i) := by
  unfold dir
  rw [Nat.testBit_or, Bool.or_eq_true, orF_bit]
  constructor
  · intro h
    rcases h with h | ⟨k, hk, h⟩
    · by_cases q : ki e = 0 ∧ ¬ bs e = -1
      · rw [if_pos q, p2_tb] at h; exact Or.inl ⟨q.1, q.2, h⟩
      · rw [if_neg q, Nat.zero_testBit] at h; cases h
    · by_cases q : (er k).testBit e = true ∧ ¬ au k = -1
      · rw [if_pos q, p2_tb] at h; exact Or.inr ⟨k, hk, q.1, q.2, h⟩
      · rw [if_neg q, Nat.zero_testBit] at h; cases h
  · intro h
    rcases h with ⟨a, b, c⟩ | ⟨k, hk, a, b, c⟩
    · left; rw [if_pos ⟨a, b⟩, p2_tb]; exact c
    · right; exact ⟨k, hk, by rw [if_pos ⟨a, b⟩, p2_tb]; exact c⟩
theorem thr_bit {ba : Nat → Nat} {d n i : Nat} : (thr ba d n).testBit i = true ↔ ∃ k, k < n ∧ d.testBit k = true ∧ (ba k).testBit i = true := nee_bit
theorem bth_bit {ba : Nat → Nat} {a : Int} {i : Nat} (h : a < 16) : (bth ba (om a)).testBit i = true ↔ (¬ a < 0 ∧ (a.toNat = i ∨ (ba a.toNat).testBit i = true)) := by
  by_cases q : a < 0
  · rw [om_n q, bth_0 rfl, Nat.zero_testBit]; exact ⟨fun z => (by cases z), fun z => absurd q z.1⟩
  · have hp := Nat.two_pow_pos a.toNat
    rw [om_p q, bth_1 (by omega), popc_pow (by omega), Nat.testBit_or, Bool.or_eq_true, p2_tb]
    exact ⟨fun z => ⟨q, z⟩, fun z => z.2⟩
theorem bit_ext {a b : Nat} (h : ∀ i, a.testBit i = true ↔ b.testBit i = true) : a = b := Nat.eq_of_testBit_eq (fun i => by rw [Bool.eq_iff_iff]; exact h i)
theorem dep1 {ba : Nat → Nat} {n e i : Nat} : (dep ba n (2 ^ e)).testBit i = true ↔ (i < n ∧ (ba i).testBit e = true) := by
  rw [dep_bit]
  rcases hasE (ba i) e with h | h
  · rw [h.1, h.2]; exact ⟨fun z => absurd rfl z.2, fun z => by cases z.2⟩
  · exact ⟨fun z => ⟨z.1, h.2⟩, fun z => ⟨z.1, h.1⟩⟩
section GDS
variable {cn en ac cu : Nat} {co : Nat → Nat} {au : Nat → Int} {er ki : Nat → Nat} {bs : Nat → Int} {ba : Nat → Nat}
theorem ba_tr (hrq : RQ au er ki bs cn en ba) (hlt : ∀ e, e < en → ba e < 2 ^ e) : ∀ f, f < en → ∀ g i, (ba f).testBit g = true → (ba g).testBit i = true → (ba f).testBit i = true := by
  intro f
  induction f using Nat.strongRecOn with
  | ind f ih =>
    intro hf g i hg hi
    have e := hrq f hf
    have hgf := tb_lt (hlt f hf) hg
    have h1 : (dir au er ki bs cn f ||| thr ba (dir au er ki bs cn f) f).testBit g = true := by rw [← e]; exact hg
    rw [Nat.testBit_or, Bool.or_eq_true] at h1
    rw [e, Nat.testBit_or, Bool.or_eq_true]
    right
    rcases h1 with h1 | h1
    · exact thr_bit.mpr ⟨g, hgf, h1, hi⟩
    · obtain ⟨b, b1, b2, b3⟩ := thr_bit.mp h1
      exact thr_bit.mpr ⟨b, b1, b2, ih b b1 (by omega) g i b3 hi⟩
theorem clo_ct (hrq : RQ au er ki bs cn en ba) (hlt : ∀ e, e < en → ba e < 2 ^ e) {e : Nat} (hae : ac.testBit e = true) : ct ba en ac (2 ^ e ||| (dep ba en (2 ^ e) &&& ac)) := by
  constructor
  · rw [nd_zero]; intro i hi
    rw [Nat.testBit_or, Bool.or_eq_true, p2_tb, Nat.testBit_and, Bool.and_eq_true] at hi
    rcases hi with h | h
    · rw [← h]; exact hae
    · exact h.2
  · rw [nd_zero]; intro i hi
    rw [Nat.testBit_and, Bool.and_eq_true, dep_bit] at hi
    obtain ⟨⟨h1, h2⟩, h3⟩ := hi
    obtain ⟨g, g1, g2⟩ := and_ne h2
    rw [Nat.testBit_or, Bool.or_eq_true, Nat.testBit_and, Bool.and_eq_true, dep1]
    rw [Nat.testBit_or, Bool.or_eq_true, p2_tb, Nat.testBit_and, Bool.and_eq_true, dep1] at g2
    right
    rcases g2 with h | h
    · subst h; exact ⟨⟨h1, g1⟩, h3⟩
    · exact ⟨⟨h1, ba_tr hrq hlt i h1 g e g1 h.1.2⟩, h3⟩
theorem clo_lt {e : Nat} (he : e < en) : 2 ^ e ||| (dep ba en (2 ^ e) &&& ac) < 2 ^ en := lt_tb (fun i hi => by
  rw [Nat.testBit_or, Bool.or_eq_true, p2_tb, Nat.testBit_and, Bool.and_eq_true, dep1] at hi
  rcases hi with h | h
  · omega
  · exact h.1.1)
theorem p2_ne {e x : Nat} : ¬ 2 ^ e ||| x = 0 := fun h => by
  have h1 := congrArg (fun z => z.testBit e) h
  simp only [Nat.testBit_or, Nat.testBit_two_pow_self, Bool.true_or, Nat.zero_testBit] at h1
  cases h1
theorem ope_eq {e : Nat} (hae : ¬ ac.testBit e = true) : nd (2 ^ e ||| ba e) ac = 2 ^ e ||| nd (ba e) ac := bit_ext (fun i => by
  rw [nd_bit, Nat.testBit_or, Nat.testBit_or, nd_bit, Bool.and_eq_true, Bool.or_eq_true, Bool.or_eq_true, Bool.and_eq_true, p2_tb]
  constructor
  · intro h
    rcases h.1 with q | q
    · exact Or.inl q
    · exact Or.inr ⟨q, h.2⟩
  · intro h
    rcases h with q | q
    · refine ⟨Or.inl q, ?_⟩
      rw [← q]
      cases z : ac.testBit e
      · rfl
      · exact absurd z hae
    · exact ⟨Or.inr q.1, q.2⟩)
theorem ope_ok (hrq : RQ au er ki bs cn en ba) (hlt : ∀ e, e < en → ba e < 2 ^ e) {e : Nat} (he : e < en) (hae : ¬ ac.testBit e = true) : (2 ^ e ||| nd (ba e) ac) &&& ac = 0 ∧ nd (nee ba (2 ^ e ||| nd (ba e) ac) en) (ac ||| (2 ^ e ||| nd (ba e) ac)) = 0 := by
  constructor
  · rw [nd_and]; intro i hi
    rw [Nat.testBit_or, Bool.or_eq_true, p2_tb, nd_bit, Bool.and_eq_true] at hi
    rcases hi with h | h
    · subst h; cases z : ac.testBit e; rfl; exact absurd z hae
    · cases z : ac.testBit i; rfl; rw [z] at h; cases h.2
  · rw [nd_zero]; intro i hi
    obtain ⟨k, k1, k2, k3⟩ := nee_bit.mp hi
    rw [Nat.testBit_or, Bool.or_eq_true, p2_tb, nd_bit, Bool.and_eq_true] at k2
    have hb : (ba e).testBit i = true := by
      rcases k2 with h | h
      · subst h; exact k3
      · exact ba_tr hrq hlt e he k i h.1 k3
    rw [Nat.testBit_or, Bool.or_eq_true, Nat.testBit_or, Bool.or_eq_true, nd_bit, Bool.and_eq_true]
    cases z : ac.testBit i
    · exact Or.inr (Or.inr ⟨hb, rfl⟩)
    · exact Or.inl rfl
theorem ope_lt (hlt : ∀ e, e < en → ba e < 2 ^ e) {e : Nat} (he : e < en) : 2 ^ e ||| nd (ba e) ac < 2 ^ en := lt_tb (fun i hi => by
  rw [Nat.testBit_or, Bool.or_eq_true, p2_tb, nd_bit, Bool.and_eq_true] at hi
  rcases hi with h | h
  · omega
  · have := tb_lt (hlt e he) h.1; omega)
end GDS
