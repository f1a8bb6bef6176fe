
/-! the class's rows beside the reference's -/
def LK (cn en ac : Nat) (co : Nat → Nat) (au : Nat → Int) (er ki : Nat → Nat) (ln es : Nat) (cc ow ec ix : Nat → Nat) : Prop :=
  ln = cnt (visb (omF au) er ac) cn ∧ es < 2 ^ en ∧ (∀ e, e < en → (es.testBit e = true ↔ ki e = 1)) ∧ (∀ k, k < cn → cc k = co k ∧ ow k = omF au k ∧ ec k = er k) ∧ ((∀ k, cc k < 65536) ∧ (∀ k, ow k < 65536) ∧ (∀ k, ec k < 65536) ∧ ∀ j, ix j < 160) ∧ ixOK (visb (omF au) er ac) cn ix
theorem omF_en (en : Nat) : omF (fun _ => (en : Int)) = fun _ => 2 ^ en := by
  funext j; show om (en : Int) = 2 ^ en; rw [om_p (by omega), Int.toNat_natCast]
theorem erR_k {er ix : Nat → Nat} {e f k : Nat} : ∀ d, ((∃ j, j < d ∧ ix (f + j) = k) → erR er ix e f d k = er k ||| 2 ^ e) ∧ ((∀ j, j < d → ¬ ix (f + j) = k) → erR er ix e f d k = er k) := by
  intro d
  induction d with
  | zero => exact ⟨fun ⟨j, h, _⟩ => absurd h (Nat.not_lt_zero j), fun _ => rfl⟩
  | succ d ih =>
    have hv : erR er ix e f (d + 1) k = if k = ix (f + d) then erR er ix e f d (ix (f + d)) ||| 2 ^ e else erR er ix e f d k := rfl
    by_cases q : k = ix (f + d)
    · rw [if_pos q, ← q] at hv
      refine ⟨fun _ => ?_, fun h => absurd q.symm (h d (by omega))⟩
      rw [hv]
      by_cases z : ∃ j, j < d ∧ ix (f + j) = k
      · rw [ih.1 z, Nat.or_assoc, Nat.or_self]
      · rw [ih.2 (fun j hj hz => z ⟨j, hj, hz⟩)]
    · rw [if_neg q] at hv
      rw [hv]
      refine ⟨fun ⟨j, h1, h2⟩ => ih.1 ⟨j, ?_, h2⟩, fun h => ih.2 (fun j hj => h j (by omega))⟩
      rcases Nat.lt_or_eq_of_le (Nat.le_of_lt_succ h1) with y | y
      · exact y
      · rw [y] at h2; exact absurd h2.symm q
section LKS
variable {cn en ac cu : Nat} {co : Nat → Nat} {au : Nat → Int} {er ki : Nat → Nat} {bs : Nat → Int} {ba : Nat → Nat} {ln es : Nat} {cc ow ec ix : Nat → Nat}
theorem LK.vis (h : LK cn en ac co au er ki ln es cc ow ec ix) (act : Nat) {k : Nat} (hk : k < cn) : visb ow ec act k = visb (omF au) er act k := by
  obtain ⟨_, h1, h2⟩ := h.2.2.2.1 k hk
  rw [visb_vb, visb_vb, h1, h2]
theorem LK.cnt2 (h : LK cn en ac co au er ki ln es cc ow ec ix) (act : Nat) {n : Nat} (hn : n ≤ cn) : cnt (visb ow ec act) n = cnt (visb (omF au) er act) n := cnt_congr (fun k hk => h.vis act (by omega))
theorem LK.ixs (h : LK cn en ac co au er ki ln es cc ow ec ix) {j : Nat} (hj : j < ln) : ix j < cn ∧ ix j = nv (visb (omF au) er ac) cn j := by
  obtain ⟨h1, _, _, _, _, h6⟩ := h
  rw [h1] at hj
  exact ⟨(h6 j hj).1, ix_nv h6 hj⟩
theorem LK.at (h : LK cn en ac co au er ki ln es cc ow ec ix) {j : Nat} (hj : j < ln) : atv (visb (omF au) er ac) cn j = ((ix j : Nat) : Int) := by
  have h1 := h.1
  rw [atv_lt (by omega), (h.ixs hj).2]
theorem LK.hoe (h : LK cn en ac co au er ki ln es cc ow ec ix) (hau : ∀ k, k < cn → au k < (en : Int)) (hen : en ≤ 16) : ∀ j, j < ln → ow (ix j) = 0 ∨ popc (ow (ix j) - 1) < en := fun j hj => by
  have hj2 := (h.ixs hj).1
  have ha := hau _ hj2
  rw [(h.2.2.2.1 _ hj2).2.1]
  show om (au (ix j)) = 0 ∨ popc (om (au (ix j)) - 1) < en
  by_cases q : au (ix j) < 0
  · exact Or.inl (om_n q)
  · right; rw [om_p q, popc_pow (by omega)]; omega
theorem LK_act (h : LK cn en ac co au er ki ln es cc ow ec ix) {act : Nat} {ix2 : Nat → Nat} (h1 : ∀ j, ix2 j < 160) (h2 : ixOK (visb ow ec act) cn ix2) : LK cn en act co au er ki (cnt (visb ow ec act) cn) es cc ow ec ix2 := by
  have hc := h.cnt2 act (Nat.le_refl cn)
  have hv := fun k (hk : k < cn) => h.vis act hk
  obtain ⟨_, b, c, d, ⟨e1, e2, e3, _⟩, _⟩ := h
  exact ⟨hc, b, c, d, ⟨e1, e2, e3, h1⟩, ixOK_congr hv h2⟩
theorem LK_ins (h : LK cn en ac co au er ki ln es cc ow ec ix) {st c : Nat} {g1 cl ix2 : Nat → Nat} (hen : en < 16) (hst : st ≤ cn) (hg : ∀ i, i < c → g1 i = cl i) (hgb : ∀ i, g1 i < 65536) (h1 : ∀ j, ix2 j < 160)
    (h2 : ixOK (visb (inR (shF ow st c cn) st (fun _ => 2 ^ en) c) (inR (shF ec st c cn) st (fun _ => 0) c) (ac ||| 2 ^ en)) (cn + c) ix2) :
    LK (cn + c) (en + 1) (ac ||| 2 ^ en) (inR (shF co st c cn) st cl c) (inI (shI au st c cn) st (fun _ => (en : Int)) c) (inR (shF er st c cn) st (fun _ => 0) c) (up ki en 0) (cnt (visb (inR (shF ow st c cn) st (fun _ => 2 ^ en) c) (inR (shF ec st c cn) st (fun _ => 0) c) (ac ||| 2 ^ en)) (cn + c)) es (inR (shF cc st c cn) st g1 c) (inR (shF ow st c cn) st (fun _ => 2 ^ en) c) (inR (shF ec st c cn) st (fun _ => 0) c) ix2 := by
  obtain ⟨_, b, c', d, ⟨e1, e2, e3, _⟩, _⟩ := h
  have eo : omF (inI (shI au st c cn) st (fun _ => (en : Int)) c) = inR (shF (omF au) st c cn) st (fun _ => 2 ^ en) c := by rw [inI_om, shI_om, omF_en]
  have ho := in_cong hst (fun k hk => (d k hk).2.1) (fun i (_ : i < c) => (rfl : (2 ^ en : Nat) = 2 ^ en))
  have he := in_cong hst (fun k hk => (d k hk).2.2) (fun i (_ : i < c) => (rfl : (0 : Nat) = 0))
  have hco := in_cong hst (fun k hk => (d k hk).1) hg
  have hv : ∀ k, k < cn + c → visb (inR (shF ow st c cn) st (fun _ => 2 ^ en) c) (inR (shF ec st c cn) st (fun _ => 0) c) (ac ||| 2 ^ en) k = visb (omF (inI (shI au st c cn) st (fun _ => (en : Int)) c)) (inR (shF er st c cn) st (fun _ => 0) c) (ac ||| 2 ^ en) k := fun k hk => by
    rw [visb_vb, visb_vb, eo, ho k hk, he k hk]
  have hp := pow16 hen
  refine ⟨cnt_congr hv, Nat.lt_of_lt_of_le b (Nat.pow_le_pow_right (by omega) (by omega)), fun e he => ?_, fun k hk => ⟨hco k hk, by rw [eo]; exact ho k hk, he k hk⟩, ⟨inR_lt (shF_lt e1) hgb, inR_lt (shF_lt e2) (fun _ => hp), inR_lt (shF_lt e3) (fun _ => by omega), h1⟩, ixOK_congr hv h2⟩
  by_cases q : e = en
  · rw [q, up_same]; exact ⟨fun z => by have := tb_lt b z; omega, fun z => by cases z⟩
  · rw [up_ne _ _ q]; exact c' e (by omega)
theorem era_row (h : LK cn en ac co au er ki ln es cc ow ec ix) {f t k : Nat} (hf : f < t) (ht : t ≤ ln) (hk : k < cn) : erR ec ix en f (t - f) k = erM (visb (omF au) er ac) er f t en cn k := by
  obtain ⟨h1, _, _, d, _, h6⟩ := h
  by_cases q : eS (visb (omF au) er ac) f t cn k
  · rw [erM_y q, (erR_k (t - f)).1 ⟨cnt (visb (omF au) er ac) k - f, by have := q.2.2.1; have := q.2.2.2; omega, by rw [show f + (cnt (visb (omF au) er ac) k - f) = cnt (visb (omF au) er ac) k by have := q.2.2.1; omega]; exact ix_at h6 hk q.2.1⟩, (d k hk).2.2]
  · rw [erM_n q, (erR_k (t - f)).2 (fun j hj hz => q ?_), (d k hk).2.2]
    obtain ⟨y1, y2, y3⟩ := h6 (f + j) (by omega)
    rw [hz] at y1 y2 y3
    exact ⟨y1, y2, by omega, by omega⟩
theorem LK_era (h : LK cn en ac co au er ki ln es cc ow ec ix) {f t : Nat} {ix2 : Nat → Nat} (hen : en < 16) (hf : f < t) (ht : t ≤ ln) (h1 : ∀ j, ix2 j < 160) (h2 : ixOK (visb ow (erR ec ix en f (t - f)) (ac ||| 2 ^ en)) cn ix2) :
    LK cn (en + 1) (ac ||| 2 ^ en) co au (erM (visb (omF au) er ac) er f t en cn) (up ki en 1) (cnt (visb ow (erR ec ix en f (t - f)) (ac ||| 2 ^ en)) cn) (es ||| 2 ^ en) cc ow (erR ec ix en f (t - f)) ix2 := by
  have hr := fun k (hk : k < cn) => era_row h hf ht hk
  obtain ⟨_, b, c', d, ⟨e1, e2, e3, _⟩, _⟩ := h
  have hp := p2_lt (show en < en + 1 by omega)
  have hv : ∀ k, k < cn → visb ow (erR ec ix en f (t - f)) (ac ||| 2 ^ en) k = visb (omF au) (erM (visb (omF au) er ac) er f t en cn) (ac ||| 2 ^ en) k := fun k hk => by
    rw [visb_vb, visb_vb, (d k hk).2.1, hr k hk]
  refine ⟨cnt_congr hv, or_lt (by omega) hp, fun e he => ?_, fun k hk => ⟨(d k hk).1, (d k hk).2.1, hr k hk⟩, ⟨e1, e2, erR_lt e3 hen _, h1⟩, ixOK_congr hv h2⟩
  by_cases q : e = en
  · rw [q, up_same, Nat.testBit_or, Nat.testBit_two_pow_self, Bool.or_true]; exact ⟨fun _ => rfl, fun _ => rfl⟩
  · rw [up_ne _ _ q, Nat.testBit_or, Nat.testBit_two_pow, decide_eq_false (fun z => q z.symm), Bool.or_false]; exact c' e (by omega)
theorem era_ba (h : LK cn en ac co au er ki ln es cc ow ec ix) {f t : Nat} (hf : f < t) (ht : t ≤ ln) : bthR ba ow ix f (t - f) = bthR ba (omF au) (nv (visb (omF au) er ac) cn) f (t - f) := orF_congr (fun j hj => by
  have hx := h.ixs (show f + j < ln by omega)
  show bth ba (ow (ix (f + j))) = bth ba (omF au (nv (visb (omF au) er ac) cn (f + j)))
  rw [← hx.2, (h.2.2.2.1 _ hx.1).2.1])
end LKS
theorem LK_beg {cl clc co ow er ix2 : Nat → Nat} {cp : Nat} (hcp : cp ≤ 60) (hcl : ∀ k, k < cp → clc k = cl k) (hb : ∀ k, clc k < 65536) (h0 : ∀ k, co k < 65536) (h1 : ∀ k, ow k < 65536) (h2 : ∀ k, er k < 65536) (h3 : ∀ j, ix2 j < 160) (h4 : ixOK (visb (preF ow (fun _ => 0) cp) (preF er (fun _ => 0) cp) 0) cp ix2) :
    LK cp 0 0 (preF (fun _ => 0) cl cp) (pmI cp) (fun _ => 0) (fun _ => 0) cp 0 (preF co clc cp) (preF ow (fun _ => 0) cp) (preF er (fun _ => 0) cp) ix2 := by
  have hr : ∀ k, k < cp → preF ow (fun _ => 0) cp k = omF (pmI cp) k := fun k hk => by
    rw [preF_at hk]; show 0 = om (pmI cp k); rw [om_n (by unfold pmI; rw [if_pos hk]; omega)]
  have hv : ∀ k, k < cp → visb (preF ow (fun _ => 0) cp) (preF er (fun _ => 0) cp) 0 k = visb (omF (pmI cp)) (fun _ => 0) 0 k := fun k hk => by
    rw [visb_vb, visb_vb, hr k hk, preF_at hk]
  refine ⟨?_, Nat.two_pow_pos _, fun e he => absurd he (Nat.not_lt_zero e), fun k hk => ⟨?_, hr k hk, preF_at hk⟩, ⟨preF_lt h0 hb, preF_lt h1 (fun _ => by omega), preF_lt h2 (fun _ => by omega), h3⟩, ixOK_congr hv h4⟩
  · rw [← cnt_congr hv, cnt_pre]
  · rw [preF_at hk, preF_at hk]; exact hcl k hk
