
/-! the class's answers beside the reference's: words by rows that agree -/
section ANS
variable {cn en ac cu : Nat} {co : Nat → Nat} {au : Nat → Int} {er ki : Nat → Nat} {bs : Nat → Int} {ba : Nat → Nat} {ln es : Nat} {cc ow ec ix : Nat → Nat}
theorem LK.tch2 (h : LK cn en ac co au er ki ln es cc ow ec ix) {e k : Nat} (hk : k < cn) : tch ow ec e k = tch (omF au) er e k := by
  obtain ⟨_, h1, h2⟩ := h.2.2.2.1 k hk
  show (ow k ||| ec k).testBit e = (omF au k ||| er k).testBit e
  rw [h1, h2]
theorem LK.siz (h : LK cn en ac co au er ki ln es cc ow ec ix) (e : Nat) : cnt (tch ow ec e) cn = cnt (tch (omF au) er e) cn := cnt_congr (fun k hk => h.tch2 hk)
theorem LK.plc2 (h : LK cn en ac co au er ki ln es cc ow ec ix) (act e : Nat) : plc ow ec cn act e = plc (omF au) er cn act e := by
  show cnt (visb ow ec act) (fsF (tch ow ec e) cn) = cnt (visb (omF au) er act) (fsF (tch (omF au) er e) cn)
  rw [show fsF (tch ow ec e) cn = fsF (tch (omF au) er e) cn from fsF_congr (fun k hk => h.tch2 hk)]
  exact h.cnt2 act (fsF_le _ _)
theorem LK.prc2 (h : LK cn en ac co au er ki ln es cc ow ec ix) (act cu ag di e : Nat) : prc ow ec cn act cu ag di e = prc (omF au) er cn act cu ag di e := by
  show 1 + ag * popc (act >>> (e + 1)) + di * (((plc ow ec cn act e : Int) - (cu : Int)).natAbs / 4) = 1 + ag * popc (act >>> (e + 1)) + di * (((plc (omF au) er cn act e : Int) - (cu : Int)).natAbs / 4)
  rw [h.plc2]
theorem LK.psm2 (h : LK cn en ac co au er ki ln es cc ow ec ix) (act cu ag di st n : Nat) : psm (prc ow ec cn act cu ag di) st n = psm (prc (omF au) er cn act cu ag di) st n := by
  rw [show prc ow ec cn act cu ag di = prc (omF au) er cn act cu ag di from funext (fun e => h.prc2 act cu ag di e)]
theorem LK.rch2 (h : LK cn en ac co au er ki ln es cc ow ec ix) (kd va act a2 : Nat) : rch (visb ow ec act) cc cn kd va a2 = rch (visb (omF au) er act) co cn kd va a2 := by
  have e1 := h.cnt2 act (Nat.le_refl cn)
  have e2 : cnt (qv (visb ow ec act) cc va) cn = cnt (qv (visb (omF au) er act) co va) cn := cnt_congr (fun k hk => by unfold qv; rw [h.vis act hk, (h.2.2.2.1 k hk).1])
  have e3 : fsF (visb ow ec act) cn = fsF (visb (omF au) er act) cn := fsF_congr (fun k hk => h.vis act hk)
  have e4 : fsF (visb (omF au) er act) cn < cn → cc (fsF (visb (omF au) er act) cn) = co (fsF (visb (omF au) er act) cn) := fun z => (h.2.2.2.1 _ z).1
  unfold rch
  rw [e1, e2, e3]
  by_cases h0 : kd = 0
  · rw [if_pos h0, if_pos h0]
  · rw [if_neg h0, if_neg h0]
    by_cases h1 : kd = 1
    · rw [if_pos h1, if_pos h1]
    · rw [if_neg h1, if_neg h1]
      by_cases h2 : kd = 2
      · rw [if_pos h2, if_pos h2, Bool.eq_iff_iff, decide_eq_true_iff, decide_eq_true_iff]
        exact ⟨fun z => ⟨z.1, by rw [← e4 z.1]; exact z.2⟩, fun z => ⟨z.1, by rw [e4 z.1]; exact z.2⟩⟩
      · rw [if_neg h2, if_neg h2]
theorem LK.vld2 (h : LK cn en ac co au er ki ln es cc ow ec ix) (kd va s : Nat) : vld ow ec cc ba cn en ac kd va s = vld (omF au) er co ba cn en ac kd va s := by
  unfold vld; rw [h.rch2]
theorem LK.auth (h : LK cn en ac co au er ki ln es cc ow ec ix) (hau : ∀ k, -1 ≤ au k ∧ au k < 16) {j : Nat} (hj : j < ln) : (if ow (ix j) = 0 then (-9 : Int) else ((popc (ow (ix j) - 1) : Nat) : Int)) = (if au (ix j) = -1 then -9 else au (ix j)) := by
  have hx := h.ixs hj
  have ha := hau (ix j)
  rw [(h.2.2.2.1 _ hx.1).2.1]
  show (if om (au (ix j)) = 0 then (-9 : Int) else ((popc (om (au (ix j)) - 1) : Nat) : Int)) = _
  by_cases q : au (ix j) < 0
  · rw [om_n q, if_pos rfl, if_pos (by omega)]
  · have hp := Nat.two_pow_pos (au (ix j)).toNat
    rw [om_p q, if_neg (by omega), if_neg (by omega), popc_pow (by omega)]; omega
theorem LK.kind (h : LK cn en ac co au er ki ln es cc ow ec ix) (hki : ∀ k, ki k ≤ 1) {e : Nat} (he : e < en) : bI (es.testBit e = true) = ((ki e : Nat) : Int) := by
  have := hki e
  by_cases q : es.testBit e = true
  · rw [bI_t q, (h.2.2.1 e he).mp q]; rfl
  · have : ¬ ki e = 1 := fun z => q ((h.2.2.1 e he).mpr z)
    rw [bI_f q, show ki e = 0 by omega]; rfl
theorem LKrun (h : LK cn en ac co au er ki ln es cc ow ec ix) (hau : ∀ k, -1 ≤ au k ∧ au k < 16) {x : Int} {w : Nat} (hw : (x = -1 ∧ w = 0) ∨ ∃ e : Nat, x = (e : Int) ∧ w = 2 ^ e) : ∀ k, k < cn → vis (omF au) er ac k → (isO ow ix w (cnt (visb (omF au) er ac) k) = true ↔ au k = x) := fun k hk hv => by
  obtain ⟨_, _, _, d, _, h6⟩ := h
  have ha := hau k
  show decide (ow (ix (cnt (visb (omF au) er ac) k)) = w) = true ↔ _
  rw [decide_eq_true_iff, ix_at h6 hk (vis_t hv), (d k hk).2.1]
  show om (au k) = w ↔ au k = x
  rcases hw with ⟨rfl, rfl⟩ | ⟨e, rfl, rfl⟩
  · by_cases q : au k < 0
    · rw [om_n q]; exact ⟨fun _ => by omega, fun _ => rfl⟩
    · have hp := Nat.two_pow_pos (au k).toNat
      rw [om_p q]; exact ⟨fun z => by omega, fun z => by omega⟩
  · have hp := Nat.two_pow_pos e
    by_cases q : au k < 0
    · rw [om_n q]; exact ⟨fun z => by omega, fun z => by omega⟩
    · rw [om_p q]
      constructor
      · intro z
        have := congrArg (fun y => y.testBit e) z
        simp only [Nat.testBit_two_pow_self, Nat.testBit_two_pow, decide_eq_true_iff] at this
        omega
      · intro z; rw [z, Int.toNat_natCast]
theorem LKedw (h : LK cn en ac co au er ki ln es cc ow ec ix) {a n : Nat} (hn : a + n ≤ cn) : edw ow ec ac a n = edR au er ac a n := orF_congr (fun j hj => by
  obtain ⟨_, h1, h2⟩ := h.2.2.2.1 (a + j) (by omega)
  have hv : vis ow ec ac (a + j) ↔ vis (omF au) er ac (a + j) := by unfold vis; rw [h1, h2]
  by_cases q : vis (omF au) er ac (a + j)
  · rw [if_pos q, if_pos (hv.mpr q), h1, h2]
  · rw [if_neg q, if_neg (fun z => q (hv.mp z)), h2])
theorem edR_lt2 {a n : Nat} (hau : ∀ k, k < cn → au k < (en : Int)) (her : ∀ k, k < cn → er k < 2 ^ en) (hn : a + n ≤ cn) : edR au er ac a n < 2 ^ en := lt_tb (fun i hi => by
  obtain ⟨j, hj, z⟩ := (orF_bit _ n i).mp hi
  rw [Nat.testBit_or, Bool.or_eq_true, Nat.testBit_and, Bool.and_eq_true] at z
  rcases z with z | z
  · exact tb_lt (her _ (by omega)) z.1
  · by_cases q : vis (omF au) er ac (a + j)
    · rw [if_pos q] at z; exact tb_lt (om_lt2 (hau (a + j) (by omega))) z
    · rw [if_neg q, Nat.zero_testBit] at z; cases z)
end ANS
theorem BR_ex (V : Nat → Bool) (cost : Nat → Nat) : ∀ n, ∃ bv bq, BR V cost n bv bq := by
  intro n
  induction n with
  | zero => exact ⟨-9, -9, BR_0⟩
  | succ n ih =>
    obtain ⟨bv, bq, h⟩ := ih
    by_cases q : V n = true
    · by_cases z : bv = -9 ∨ (cost n : Int) < bq ∨ ((cost n : Int) = bq ∧ popc n < popc bv.toNat)
      · exact ⟨_, _, BR_new h q z⟩
      · exact ⟨_, _, BR_keep h (fun y => z (Or.inl y)) (fun y => z (Or.inr (Or.inl y))) (fun y => z (Or.inr (Or.inr y)))⟩
    · exact ⟨_, _, BR_skip h q⟩
theorem BR_un {V : Nat → Bool} {cost : Nat → Nat} {n : Nat} {bv bq bv' bq' : Int} (h : BR V cost n bv bq) (h' : BR V cost n bv' bq') : bv = bv' ∧ bq = bq' := by
  rcases h with ⟨a1, a2, a3⟩ | ⟨b, b1, b2, b3, b4, b5⟩
  · rcases h' with ⟨c1, c2, _⟩ | ⟨b', c1, _, _, c4, _⟩
    · exact ⟨by omega, by omega⟩
    · exact absurd c4 (a3 b' c1)
  · rcases h' with ⟨_, _, c3⟩ | ⟨b', c1, c2, c3, c4, c5⟩
    · exact absurd b4 (c3 b b1)
    · have e1 := b5 b' c1 c4
      have e2 := c5 b b1 b4
      unfold lex at e1 e2
      have e : b = b' := by omega
      subst e
      exact ⟨by omega, by omega⟩
theorem BR_cg {V U : Nat → Bool} {cost c2 : Nat → Nat} {n : Nat} {bv bq : Int} (h : BR V cost n bv bq) (hV : ∀ s, V s = U s) (hc : ∀ s, cost s = c2 s) : BR U c2 n bv bq := by
  rw [show U = V from funext (fun s => (hV s).symm), show c2 = cost from funext (fun s => (hc s).symm)]; exact h
