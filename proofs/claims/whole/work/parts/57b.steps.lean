
/-! the steps keep it: an insertion, an erasure, other active edits, the cursor -/
section GDT
variable {cn en ac cu : Nat} {co : Nat → Nat} {au : Nat → Int} {er ki : Nat → Nat} {bs : Nat → Int} {ba : Nat → Nat}
theorem ins_cnt {st c : Nat} (hst : st ≤ cn) (hau : ∀ k, k < cn → au k < (en : Int)) (her : ∀ k, k < cn → er k < 2 ^ en) : cnt (visb (omF (inI (shI au st c cn) st (fun _ => (en : Int)) c)) (inR (shF er st c cn) st (fun _ => 0) c) (ac ||| 2 ^ en)) (cn + c) = cnt (visb (omF au) er ac) cn + c := by
  have key := @cnt_ins (visb (omF au) er ac) (visb (omF (inI (shI au st c cn) st (fun _ => (en : Int)) c)) (inR (shF er st c cn) st (fun _ => 0) c) (ac ||| 2 ^ en)) st c (fun j hj => ?_) (fun j h1 h2 => ?_) (cn - st) (fun j h1 h2 => ?_)
  · rw [show st + (cn - st) = cn by omega] at key; exact key
  · show vb (om (inI (shI au st c cn) st (fun _ => (en : Int)) c j)) (inR (shF er st c cn) st (fun _ => 0) c j) (ac ||| 2 ^ en) = vb (om (au j)) (er j) ac
    rw [im_lo hj, in_lo hj]; exact vb_grow (om_lt2 (hau j (by omega))) (her j (by omega))
  · show vb (om (inI (shI au st c cn) st (fun _ => (en : Int)) c j)) (inR (shF er st c cn) st (fun _ => 0) c j) (ac ||| 2 ^ en) = true
    rw [im_mi h1 h2, in_mi h1 h2, om_p (by omega), Int.toNat_natCast]; exact vb_new ac en
  · show vb (om (inI (shI au st c cn) st (fun _ => (en : Int)) c (j + c))) (inR (shF er st c cn) st (fun _ => 0) c (j + c)) (ac ||| 2 ^ en) = vb (om (au j)) (er j) ac
    rw [im_hi h1 (by omega), in_hi h1 (by omega)]; exact vb_grow (om_lt2 (hau j (by omega))) (her j (by omega))
theorem ins_dir {st c e : Nat} {bse : Int} (hst : st ≤ cn) (he : e < en) : dir (inI (shI au st c cn) st (fun _ => (en : Int)) c) (inR (shF er st c cn) st (fun _ => 0) c) (up ki en 0) (up bs en bse) (cn + c) e = dir au er ki bs cn e := bit_ext (fun i => by
  rw [dir_bit, dir_bit, up_ne _ _ (show e ≠ en by omega), up_ne _ _ (show e ≠ en by omega)]
  refine or_congr Iff.rfl ⟨fun ⟨k, hk, h1, h2, h3⟩ => ?_, fun ⟨k, hk, h1, h2, h3⟩ => ?_⟩
  · rcases in_c hst hk with q | ⟨q, q2⟩ | ⟨j, q, q2, rfl⟩
    · rw [im_lo q] at h2 h3; rw [in_lo q] at h1; exact ⟨k, by omega, h1, h2, h3⟩
    · rw [in_mi q q2, Nat.zero_testBit] at h1; cases h1
    · rw [im_hi q q2] at h2 h3; rw [in_hi q q2] at h1; exact ⟨j, q2, h1, h2, h3⟩
  · by_cases q : k < st
    · exact ⟨k, by omega, by rw [in_lo q]; exact h1, by rw [im_lo q]; exact h2, by rw [im_lo q]; exact h3⟩
    · exact ⟨k + c, by omega, by rw [in_hi (by omega) hk]; exact h1, by rw [im_hi (by omega) hk]; exact h2, by rw [im_hi (by omega) hk]; exact h3⟩)
theorem GD_ins (h : GD cn en ac cu co au er ki bs ba) {st c : Nat} {bse : Int} {cl : Nat → Nat} (hen : en < 16) (hst : st ≤ cn) (hc0 : 1 ≤ c) (hcn : cn + c ≤ 160) (hlen : cnt (visb (omF au) er ac) cn + c ≤ 60) (hb : -1 ≤ bse ∧ bse < (en : Int)) (hcl : ∀ k, cl k < 65536) :
    GD (cn + c) (en + 1) (ac ||| 2 ^ en) cu (inR (shF co st c cn) st cl c) (inI (shI au st c cn) st (fun _ => (en : Int)) c) (inR (shF er st c cn) st (fun _ => 0) c) (up ki en 0) (up bs en bse) (up ba en (bth ba (om bse))) := by
  obtain ⟨⟨a1, a2, a3, a4, a5⟩, ⟨b1, b2, b3, b4, b5, b6⟩, ⟨c1, c2, c3, c4, c5⟩, d1, d2, d3, d4⟩ := h
  have hp := p2_lt (show en < en + 1 by omega)
  have hcnt := @ins_cnt cn en ac au er st c hst c1 c2
  have hbl : bth ba (om bse) < 2 ^ en := lt_tb (fun i hi => by
    rw [bth_bit (by omega)] at hi
    rcases hi.2 with q | q
    · omega
    · have := tb_lt (c5 bse.toNat (by omega)) q; omega)
  refine ⟨⟨hcn, by omega, or_lt (by omega) hp, by rw [hcnt]; exact hlen, by rw [hcnt]; omega⟩, ⟨inR_lt (shF_lt b1) hcl, inI_r (shI_r b2) (fun _ => ⟨by omega, by omega⟩), inR_lt (shF_lt b3) (fun _ => by omega), ?_, up_r b5 ⟨hb.1, by omega⟩, up_lt b6 (by have := pow16 hen; omega)⟩, ⟨fun k hk => ?_, fun k hk => ?_, fun k e hk he => ?_, fun e he => ?_, fun e he => ?_⟩, fun e he => ?_, fun e k hk hke => ?_, fun e he => ?_, fun e k hk he => ?_⟩
  · intro k; unfold up; split
    · omega
    · exact b4 k
  · rcases in_c hst hk with q | ⟨q, q2⟩ | ⟨j, q, q2, rfl⟩
    · rw [im_lo q]; have := c1 k (by omega); omega
    · rw [im_mi q q2]; omega
    · rw [im_hi q q2]; have := c1 j q2; omega
  · rcases in_c hst hk with q | ⟨q, q2⟩ | ⟨j, q, q2, rfl⟩
    · rw [in_lo q]; have := c2 k (by omega); omega
    · rw [in_mi q q2]; exact Nat.two_pow_pos _
    · rw [in_hi q q2]; have := c2 j q2; omega
  · rcases in_c hst hk with q | ⟨q, q2⟩ | ⟨j, q, q2, rfl⟩
    · rw [im_lo q]; rw [in_lo q] at he; exact c3 k e (by omega) he
    · rw [in_mi q q2, Nat.zero_testBit] at he; cases he
    · rw [im_hi q q2]; rw [in_hi q q2] at he; exact c3 j e q2 he
  · by_cases q : e = en
    · rw [q, up_same]; exact hb.2
    · rw [up_ne _ _ q]; exact c4 e (by omega)
  · by_cases q : e = en
    · rw [q, up_same]; exact hbl
    · rw [up_ne _ _ q]; exact c5 e (by omega)
  · by_cases q : e = en
    · subst q
      rw [up_same]
      have e1 : dir (inI (shI au st c cn) st (fun _ => (e : Int)) c) (inR (shF er st c cn) st (fun _ => 0) c) (up ki e 0) (up bs e bse) (cn + c) e = om bse := bit_ext (fun i => by
        rw [dir_bit, up_same, up_same]
        constructor
        · intro z
          rcases z with ⟨_, z1, z2⟩ | ⟨k, z1, z2, _, _⟩
          · rw [om_p (by omega), p2_tb]; exact z2
          · exfalso
            rcases in_c hst z1 with y | ⟨y, y2⟩ | ⟨j, y, y2, rfl⟩
            · rw [in_lo y] at z2; have := tb_lt (c2 k (by omega)) z2; omega
            · rw [in_mi y y2, Nat.zero_testBit] at z2; cases z2
            · rw [in_hi y y2] at z2; have := tb_lt (c2 j y2) z2; omega
        · intro z
          by_cases y : bse < 0
          · rw [om_n y, Nat.zero_testBit] at z; cases z
          · rw [om_p y, p2_tb] at z; exact Or.inl ⟨rfl, by omega, z⟩)
      rw [e1]
      refine bit_ext (fun i => ?_)
      rw [bth_bit (by omega), Nat.testBit_or, Bool.or_eq_true, thr_bit]
      by_cases y : bse < 0
      · rw [om_n y, Nat.zero_testBit]
        exact ⟨fun z => absurd y z.1, fun z => by rcases z with z | ⟨k, _, z, _⟩ <;> (try rw [Nat.zero_testBit] at z) <;> cases z⟩
      · rw [om_p y, p2_tb]
        constructor
        · intro z
          rcases z.2 with z | z
          · exact Or.inl z
          · exact Or.inr ⟨bse.toNat, by omega, Nat.testBit_two_pow_self, by rw [up_ne _ _ (by omega)]; exact z⟩
        · intro z
          refine ⟨y, ?_⟩
          rcases z with z | ⟨k, k1, k2, k3⟩
          · exact Or.inl z
          · rw [p2_tb] at k2; rw [up_ne _ _ (by omega)] at k3; rw [k2]; exact Or.inr k3
    · rw [ins_dir hst (by omega), up_ne _ _ q, show ∀ x, thr (up ba en x) (dir au er ki bs cn e) e = thr ba (dir au er ki bs cn e) e from fun x => thr_congr (fun k hk => up_ne _ _ (by omega))]
      exact d1 e (by omega)
  · rcases in_c hst hk with q | ⟨q, q2⟩ | ⟨j, q, q2, rfl⟩
    · rw [im_lo q] at hke; have := c1 k (by omega); rw [up_ne _ _ (by omega)]; exact d2 e k (by omega) hke
    · rw [im_mi q q2] at hke; rw [show e = en by omega, up_same]
    · rw [im_hi q q2] at hke; have := c1 j q2; rw [up_ne _ _ (by omega)]; exact d2 e j q2 hke
  · by_cases q : e = en
    · refine ⟨st, by omega, tch_om.mpr (Or.inl ?_)⟩
      rw [im_mi (Nat.le_refl st) (by omega), q]
    · obtain ⟨k, k1, k2⟩ := d3 e (by omega)
      have k3 := tch_om.mp k2
      by_cases y : k < st
      · exact ⟨k, by omega, tch_om.mpr (by rw [im_lo y, in_lo y]; exact k3)⟩
      · exact ⟨k + c, by omega, tch_om.mpr (by rw [im_hi (by omega) k1, in_hi (by omega) k1]; exact k3)⟩
  · rcases in_c hst hk with q | ⟨q, q2⟩ | ⟨j, q, q2, rfl⟩
    · rw [in_lo q] at he; have := tb_lt (c2 k (by omega)) he; rw [up_ne _ _ (by omega)]; exact d4 e k (by omega) he
    · rw [in_mi q q2, Nat.zero_testBit] at he; cases he
    · rw [in_hi q q2] at he; have := tb_lt (c2 j q2) he; rw [up_ne _ _ (by omega)]; exact d4 e j q2 he
/-- which characters an erasure takes -/
def eS (p : Nat → Bool) (f t n k : Nat) : Prop := k < n ∧ p k = true ∧ f ≤ cnt p k ∧ cnt p k < t
theorem erM_y {p : Nat → Bool} {f t e n k : Nat} (h : eS p f t n k) : erM p er f t e n k = er k ||| 2 ^ e := if_pos h
theorem erM_n {p : Nat → Bool} {f t e n k : Nat} (h : ¬ eS p f t n k) : erM p er f t e n k = er k := if_neg h
theorem erM_b {p : Nat → Bool} {f t e n k i : Nat} (h : i ≠ e) : (erM p er f t e n k).testBit i = (er k).testBit i := by
  by_cases q : eS p f t n k
  · rw [erM_y q, Nat.testBit_or, Nat.testBit_two_pow, decide_eq_false (fun z => h z.symm), Bool.or_false]
  · rw [erM_n q]
theorem erM_e {p : Nat → Bool} {f t e n k : Nat} (h : er k < 2 ^ e) : (erM p er f t e n k).testBit e = true ↔ eS p f t n k := by
  by_cases q : eS p f t n k
  · rw [erM_y q, Nat.testBit_or, Nat.testBit_two_pow_self, Bool.or_true]; exact ⟨fun _ => q, fun _ => rfl⟩
  · rw [erM_n q]; exact ⟨fun z => by have := tb_lt h z; omega, fun z => absurd z q⟩
theorem era_vis {f t k : Nat} (hk : k < cn) (hau : ∀ k, k < cn → au k < (en : Int)) (her : ∀ k, k < cn → er k < 2 ^ en) : visb (omF au) (erM (visb (omF au) er ac) er f t en cn) (ac ||| 2 ^ en) k = true → visb (omF au) er ac k = true := by
  intro h
  have h : vb (om (au k)) (erM (visb (omF au) er ac) er f t en cn k) (ac ||| 2 ^ en) = true := h
  by_cases q : eS (visb (omF au) er ac) f t cn k
  · exact q.2.1
  · rw [erM_n q, vb_grow (om_lt2 (hau k hk)) (her k hk)] at h; exact h
theorem GD_era (h : GD cn en ac cu co au er ki bs ba) {f t : Nat} (hen : en < 16) (hf : f < t) (ht : t ≤ cnt (visb (omF au) er ac) cn) :
    GD cn (en + 1) (ac ||| 2 ^ en) (min cu (cnt (visb (omF au) (erM (visb (omF au) er ac) er f t en cn) (ac ||| 2 ^ en)) cn)) co au (erM (visb (omF au) er ac) er f t en cn) (up ki en 1) (up bs en (-1)) (up ba en (bthR ba (omF au) (nv (visb (omF au) er ac) cn) f (t - f))) := by
  obtain ⟨⟨a1, a2, a3, a4, a5⟩, ⟨b1, b2, b3, b4, b5, b6⟩, ⟨c1, c2, c3, c4, c5⟩, d1, d2, d3, d4⟩ := h
  have hp := p2_lt (show en < en + 1 by omega)
  have hcl := cnt_imp (fun k hk => @era_vis cn en ac au er f t k hk c1 c2)
  have bb : ∀ i, (bthR ba (omF au) (nv (visb (omF au) er ac) cn) f (t - f)).testBit i = true ↔ ∃ k, eS (visb (omF au) er ac) f t cn k ∧ ¬ au k < 0 ∧ ((au k).toNat = i ∨ (ba (au k).toNat).testBit i = true) := fun i => by
    unfold bthR
    rw [orF_bit]
    constructor
    · intro ⟨j, hj, z⟩
      obtain ⟨y1, y2, y3⟩ := nv_ok (visb (omF au) er ac) cn (f + j) (by omega)
      have z : (bth ba (om (au (nv (visb (omF au) er ac) cn (f + j))))).testBit i = true := z
      rw [bth_bit (b2 _).2] at z
      exact ⟨_, ⟨y1, y2, by omega, by omega⟩, z⟩
    · intro ⟨k, ⟨y1, y2, y3, y4⟩, z⟩
      refine ⟨cnt (visb (omF au) er ac) k - f, by omega, ?_⟩
      show (bth ba (om (au (nv (visb (omF au) er ac) cn (f + (cnt (visb (omF au) er ac) k - f)))))).testBit i = true
      rw [nv_eq y1 y2 (show cnt (visb (omF au) er ac) k = f + (cnt (visb (omF au) er ac) k - f) by omega), bth_bit (b2 _).2]
      exact z
  have hbl : bthR ba (omF au) (nv (visb (omF au) er ac) cn) f (t - f) < 2 ^ en := lt_tb (fun i hi => by
    obtain ⟨k, y, z, z2⟩ := (bb i).mp hi
    have := c1 k y.1
    rcases z2 with z2 | z2
    · omega
    · have := tb_lt (c5 (au k).toNat (by omega)) z2; omega)
  refine ⟨⟨a1, by omega, or_lt (by omega) hp, by omega, Nat.min_le_right _ _⟩, ⟨b1, b2, erM_lt b3 hen, ?_, up_r b5 ⟨by omega, by omega⟩, up_lt b6 (by have := pow16 hen; omega)⟩, ⟨fun k hk => by have := c1 k hk; omega, fun k hk => ?_, fun k e hk he => ?_, fun e he => ?_, fun e he => ?_⟩, fun e he => ?_, fun e k hk hke => ?_, fun e he => ?_, fun e k hk he => ?_⟩
  · intro k; unfold up; split
    · omega
    · exact b4 k
  · have := c2 k hk
    by_cases q : eS (visb (omF au) er ac) f t cn k
    · rw [erM_y q]; exact or_lt (by omega) hp
    · rw [erM_n q]; omega
  · by_cases q : e = en
    · rw [q]; exact c1 k hk
    · rw [erM_b q] at he; exact c3 k e hk he
  · by_cases q : e = en
    · rw [q, up_same]; omega
    · rw [up_ne _ _ q]; exact c4 e (by omega)
  · by_cases q : e = en
    · rw [q, up_same]; exact hbl
    · rw [up_ne _ _ q]; exact c5 e (by omega)
  · by_cases q : e = en
    · subst q
      rw [up_same]
      refine bit_ext (fun i => ?_)
      rw [bb, Nat.testBit_or, Bool.or_eq_true, thr_bit, dir_bit, up_same]
      constructor
      · intro ⟨k, y, z, z2⟩
        have hk := c1 k y.1
        have hb : (erM (visb (omF au) er ac) er f t e cn k).testBit e = true := (erM_e (c2 k y.1)).mpr y
        rcases z2 with z2 | z2
        · exact Or.inl (Or.inr ⟨k, y.1, hb, by omega, z2⟩)
        · exact Or.inr ⟨(au k).toNat, by omega, dir_bit.mpr (Or.inr ⟨k, y.1, hb, by omega, rfl⟩), by rw [up_ne _ _ (by omega)]; exact z2⟩
      · intro z
        rcases z with (⟨z, _⟩ | ⟨k, k1, k2, k3, k4⟩) | ⟨j, j1, j2, j3⟩
        · cases z
        · have := (b2 k).1; exact ⟨k, (erM_e (c2 k k1)).mp k2, by omega, Or.inl k4⟩
        · rw [dir_bit, up_same] at j2
          rw [up_ne _ _ (by omega)] at j3
          rcases j2 with ⟨z, _⟩ | ⟨k, k1, k2, k3, k4⟩
          · cases z
          · have := (b2 k).1; exact ⟨k, (erM_e (c2 k k1)).mp k2, by omega, Or.inr (by rw [k4]; exact j3)⟩
    · have e1 : dir au (erM (visb (omF au) er ac) er f t en cn) (up ki en 1) (up bs en (-1)) cn e = dir au er ki bs cn e := bit_ext (fun i => by
        rw [dir_bit, dir_bit, up_ne _ _ q, up_ne _ _ q]
        refine or_congr Iff.rfl ⟨fun ⟨k, hk, h1, h2⟩ => ⟨k, hk, by rw [erM_b q] at h1; exact h1, h2⟩, fun ⟨k, hk, h1, h2⟩ => ⟨k, hk, by rw [erM_b q]; exact h1, h2⟩⟩)
      rw [e1, up_ne _ _ q, show ∀ x, thr (up ba en x) (dir au er ki bs cn e) e = thr ba (dir au er ki bs cn e) e from fun x => thr_congr (fun k hk => up_ne _ _ (by omega))]
      exact d1 e (by omega)
  · have := c1 k hk; rw [up_ne _ _ (by omega)]; exact d2 e k hk hke
  · by_cases q : e = en
    · obtain ⟨y1, y2, y3⟩ := nv_ok (visb (omF au) er ac) cn f (by omega)
      refine ⟨_, y1, tch_om.mpr (Or.inr ?_)⟩
      rw [q]; exact (erM_e (c2 _ y1)).mpr ⟨y1, y2, by omega, by omega⟩
    · obtain ⟨k, k1, k2⟩ := d3 e (by omega)
      exact ⟨k, k1, tch_om.mpr (by rw [erM_b q]; exact tch_om.mp k2)⟩
  · by_cases q : e = en
    · rw [q, up_same]
    · rw [erM_b q] at he; rw [up_ne _ _ q]; exact d4 e k hk he
theorem GD_act (h : GD cn en ac cu co au er ki bs ba) {act : Nat} (ha : act < 2 ^ en) (hl : cnt (visb (omF au) er act) cn ≤ 60) : GD cn en act (min cu (cnt (visb (omF au) er act) cn)) co au er ki bs ba :=
  ⟨⟨h.1.1, h.1.2.1, ha, hl, Nat.min_le_right _ _⟩, h.2⟩
theorem GD_cur (h : GD cn en ac cu co au er ki bs ba) {x : Nat} (hx : x ≤ cnt (visb (omF au) er ac) cn) : GD cn en ac x co au er ki bs ba :=
  ⟨⟨h.1.1, h.1.2.1, h.1.2.2.1, h.1.2.2.2.1, hx⟩, h.2⟩
end GDT
theorem GD_beg {cl : Nat → Nat} {cp : Nat} {ba : Nat → Nat} (hcp : cp ≤ 60) (hcl : ∀ k, cl k < 65536) (hba : ∀ k, ba k < 65536) : GD cp 0 0 0 (preF (fun _ => 0) cl cp) (pmI cp) (fun _ => 0) (fun _ => 0) (fun _ => 0) ba := by
  have hle : cnt (visb (omF (pmI cp)) (fun _ => 0) 0) cp ≤ cp := cnt_le _ _
  refine ⟨⟨by omega, by omega, by decide, by omega, Nat.zero_le _⟩, ⟨preF_lt (fun _ => by omega) hcl, fun k => ?_, fun _ => by show (0 : Nat) < 65536; omega, fun _ => by show (0 : Nat) ≤ 1; omega, fun _ => ⟨by show (-1 : Int) ≤ 0; omega, by show (0 : Int) < 16; omega⟩, hba⟩, ⟨fun k hk => ?_, fun k hk => Nat.two_pow_pos _, fun k e hk he => ?_, fun e he => absurd he (Nat.not_lt_zero e), fun e he => absurd he (Nat.not_lt_zero e)⟩, fun e he => absurd he (Nat.not_lt_zero e), fun e k hk hke => ?_, fun e he => absurd he (Nat.not_lt_zero e), fun e k hk he => ?_⟩
  · unfold pmI; split <;> omega
  · unfold pmI; rw [if_pos hk]; omega
  · rw [Nat.zero_testBit] at he; cases he
  · rfl
  · rw [Nat.zero_testBit] at he; cases he
