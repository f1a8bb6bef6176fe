set_option maxHeartbeats 4000000 in
set_option maxRecDepth 100000 in
theorem m_in (l : Launch) (D : va_G) (cI cB cZ cO : ClassId) (x : Int) (lo : Int) (hi : Int) (rx : rg x) (rlo : rg lo) (rhi : rg hi) : Met l yX5_in wsX5_in ({ frames := 0, cells := 0, slots := 0, locals := 0 }) (va_Pc [.int (iI (x)), .int (iI (lo)), .int (iI (hi))] (RO D cI cB cZ cO [])) (QO (bI (lo ≤ x ∧ x ≤ hi))) 0 0 (fun _ => False) := by
  refine startO (cc := cX5_in) (maxL := 3) (ret := (some .boolean)) (by decide) rfl (Nat.le_of_ble_eq_true rfl) ?_
  intro p e s m below meth c S hr hlocks hE hP ls hl
  have hx := S.1
  have hb := S.2.1
  have hown := S.2.2.2.1
  have hts := S.2.2.2.2
  have hK := hE.1
  have hl : lv_has ls 3 [(0, .int (iI (x))), (1, .int (iI (lo))), (2, .int (iI (hi)))] := hl
  refine lv_iload_n hx hb dX5_in_0 rfl (lv_at hl 0 rfl) ?_
  refine lv_iload_n hx hb dX5_in_1 rfl (lv_at hl 1 rfl) ?_
  refine r_icmp_lt (tgt := 14) hx hb (by omega) (by omega) dX5_in_2 (by decide) (fun c_1 => ?_) (fun c_1 => ?_)
  · skip
    refine r_iconst hx hb dX5_in_14 ?_
    exact r_zretO hx hb hr hlocks ((bI_f (by omega)).symm) (Or.inl rfl) dX5_in_15
  · skip
    refine lv_iload_n hx hb dX5_in_5 rfl (lv_at hl 0 rfl) ?_
    refine lv_iload_n hx hb dX5_in_6 rfl (lv_at hl 2 rfl) ?_
    refine r_icmp_gt (tgt := 14) hx hb (by omega) (by omega) dX5_in_7 (by decide) (fun c_2 => ?_) (fun c_2 => ?_)
    · skip
      refine r_iconst hx hb dX5_in_14 ?_
      exact r_zretO hx hb hr hlocks ((bI_f (by omega)).symm) (Or.inl rfl) dX5_in_15
    · skip
      refine r_iconst hx hb dX5_in_10 ?_
      refine lv_goto (tgt := 15) hx hb dX5_in_11 (by decide) ?_
      exact r_zretO hx hb hr hlocks ((bI_t (by omega)).symm) (Or.inr rfl) dX5_in_15

set_option maxHeartbeats 4000000 in
set_option maxRecDepth 100000 in
theorem m_bits (l : Launch) (D : va_G) (cI cB cZ cO : ClassId) (m1b : Nat) (hm1 : m1b < 65536) : Met l yX5_bits wsX5_bits ({ frames := 0, cells := 0, slots := 0, locals := 0 }) (va_Pc [.int (iI ((m1b : Nat) : Int))] (RO D cI cB cZ cO [])) (QO ((popc m1b : Nat) : Int)) 0 0 (fun _ => False) := by
  refine startO (cc := cX5_bits) (maxL := 3) (ret := (some .int)) (by decide) rfl (Nat.le_of_ble_eq_true rfl) ?_
  intro p e s m below meth c S hr hlocks hE hP ls hl
  have hx := S.1
  have hb := S.2.1
  have hown := S.2.2.2.1
  have hts := S.2.2.2.2
  have hK := hE.1
  have hl : lv_has ls 3 [(0, .int (iI ((m1b : Nat) : Int)))] := hl
  refine r_iconst hx hb dX5_bits_0 ?_
  refine lv_istore_n (lv' := [(1, .int (iI 0)), (0, .int (iI ((m1b : Nat) : Int)))]) hx hb dX5_bits_1 rfl hl (by decide) rfl (fun ls hl => ?_)
  refine r_iconst hx hb dX5_bits_2 ?_
  refine lv_istore_n (lv' := [(2, .int (iI 0)), (1, .int (iI 0)), (0, .int (iI ((m1b : Nat) : Int)))]) hx hb dX5_bits_3 rfl hl (by decide) rfl (fun ls hl => ?_)
  have loop_4 : ∀ (n_4 : Nat) (k : Nat), (16 - k) < n_4 → (k ≤ 16) → ∀ (ls : Array Slot), lv_has ls 3 [(0, .int (iI ((m1b : Nat) : Int))), (1, .int (iI ((cnt (fun j => m1b.testBit j) k : Nat) : Int))), (2, .int (iI ((k : Nat) : Int)))] → W p l e ({ frames := 0, cells := 0, slots := 0, locals := 0 }) s m ([.int (iI ((m1b : Nat) : Int))] : List Value).toArray below meth c s.heap [] 0 0 (MQ below (QO ((popc m1b : Nat) : Int)) ([.int (iI ((m1b : Nat) : Int))] : List Value).toArray s 0 0 (fun _ => False)) (F0 m 4 ls []) := by
    intro n_4
    induction n_4 with
    | zero => intro k h_meas; exact absurd h_meas (Nat.not_lt_zero _)
    | succ n_4 ih_4 =>
      intro k h_m4 ik ls hl
      refine lv_iload_n hx hb dX5_bits_4 rfl (lv_at hl 2 rfl) ?_
      refine r_bipush hx hb dX5_bits_5 (by decide) ?_
      refine r_icmp_ge (tgt := 24) hx hb (by first | omega | (rw [show k = 16 by omega]; rfl)) (⟨by decide, by decide⟩) dX5_bits_7 (by decide) (fun c_1 => ?_) (fun c_1 => ?_)
      · skip
        refine lv_iload_n hx hb dX5_bits_24 rfl (lv_at hl 1 rfl) ?_
        exact r_iretO hx hb hr hlocks (by first | omega | (rw [show k = 16 by omega]; rfl)) dX5_bits_25
      · skip
        refine lv_iload_n hx hb dX5_bits_10 rfl (lv_at hl 1 rfl) ?_
        refine lv_iload_n hx hb dX5_bits_11 rfl (lv_at hl 0 rfl) ?_
        refine lv_iload_n hx hb dX5_bits_12 rfl (lv_at hl 2 rfl) ?_
        refine r_ishr hx hb (m1b) (k) (rfl) (rfl) (by first | omega | (rw [show k = 16 by omega]; rfl)) (by first | omega | (rw [show k = 16 by omega]; rfl)) dX5_bits_13 ?_
        refine r_iconst hx hb dX5_bits_14 ?_
        refine r_iand hx hb (m1b >>> k) (1) (rfl) (rfl) dX5_bits_15 ?_
        refine r_iadd (v := (((cnt (fun j => m1b.testBit j) k) + ((m1b >>> k) &&& 1) : Nat) : Int)) hx hb (rfl) dX5_bits_16 ?_
        refine lv_istore_n (lv' := [(1, .int (iI (((cnt (fun j => m1b.testBit j) k) + ((m1b >>> k) &&& 1) : Nat) : Int))), (0, .int (iI ((m1b : Nat) : Int))), (2, .int (iI ((k : Nat) : Int)))]) hx hb dX5_bits_17 rfl hl (by decide) rfl (fun ls hl => ?_)
        refine lv_iinc (v := iI ((k + 1 : Nat) : Int)) (lv' := [(2, .int (iI ((k + 1 : Nat) : Int))), (1, .int (iI (((cnt (fun j => m1b.testBit j) k) + ((m1b >>> k) &&& 1) : Nat) : Int))), (0, .int (iI ((m1b : Nat) : Int)))]) hx hb dX5_bits_18 hl (k := 2) rfl ((iI_add _ _).trans (ii (rfl))) (by decide) rfl (fun ls hl => ?_)
        refine lv_goto (tgt := 4) hx hb dX5_bits_21 (by decide) ?_
        have hl : lv_has ls 3 [(2, .int (iI ((k + 1 : Nat) : Int))), (1, .int (iI ((cnt (fun j => m1b.testBit j) (k + 1) : Nat) : Int))), (0, .int (iI ((m1b : Nat) : Int)))] := lv_chg hl 1 1 rfl (show ((((cnt (fun j => m1b.testBit j) k) + ((m1b >>> k) &&& 1) : Nat) : Int) : Int) = ((cnt (fun j => m1b.testBit j) (k + 1) : Nat) : Int) from by show ((cnt (fun j => m1b.testBit j) k + ((m1b >>> k) &&& 1) : Nat) : Int) = ((cnt (fun j => m1b.testBit j) k + (if m1b.testBit k = true then 1 else 0) : Nat) : Int); rw [bit_c]) rfl
        exact ih_4 (k + 1) (by first | omega | (rw [show k = 16 by omega]; rfl)) (by first | assumption | (first | omega | (rw [show k = 16 by omega]; rfl))) ls (lv_sub hl [2, 1, 0] rfl)
  have hl : lv_has ls 3 [(2, .int (iI 0)), (1, .int (iI ((cnt (fun j => m1b.testBit j) 0 : Nat) : Int))), (0, .int (iI ((m1b : Nat) : Int)))] := lv_chg hl 1 1 rfl (show (0 : Int) = ((cnt (fun j => m1b.testBit j) 0 : Nat) : Int) from by rfl) rfl
  exact loop_4 ((16 - 0) + 1) 0 (by first | omega | (rw [show k = 16 by omega]; rfl)) (by first | assumption | (first | omega | (rw [show k = 16 by omega]; rfl))) ls (lv_sub hl [2, 1, 0] rfl)

theorem kX5_isVisible_7 : Cond.fieldLink RX5 7 "PricedUndoModel" "s" "[I" ∈ wsX5_isVisible := by decide +kernel
theorem nX5_isVisible_X5 : ∀ w ∈ u_ws RX5 TX5 17, w ∈ wsX5_isVisible := by decide +kernel
set_option maxHeartbeats 4000000 in
set_option maxRecDepth 100000 in
theorem m_isVisible (l : Launch) (D : va_G) (cI cB cZ cO : ClassId) (hm : Nat) (m1 : Nat) (m2 : Nat) (m3 : Nat) (m4 : Nat) (m5 : Nat) (m6 : Nat) (m7 : Nat) (m8 : Nat) (pa : Nat) (pb : Nat) (cp : Nat) (ty : Nat) (nx : Nat) (fi : Int) (se : Int) (le : Nat) (bp : Int) (cn : Nat) (en : Nat) (ac : Nat) (cu : Nat) (co : Nat → Nat) (au : Nat → Int) (er : Nat → Nat) (ki : Nat → Nat) (bs : Nat → Int) (k : Nat) (act : Nat) (hk : k < 160) (hact : act < 65536) (hau : ∀ k, -1 ≤ au k ∧ au k < 16) (her : ∀ k, er k < 65536) : Met l yX5_isVisible wsX5_isVisible ({ frames := 0, cells := 0, slots := 0, locals := 0 }) (va_Pc [.ref hm, .int (iI ((k : Nat) : Int)), .int (iI ((act : Nat) : Int))] (RO D cI cB cZ cO [(hm, .inr (5, [.ref m1, .ref m2, .ref m3, .int (iI ((pa : Nat) : Int)), .int (iI ((pb : Nat) : Int)), .ref m4, .int (iI ((cp : Nat) : Int)), .ref m5, .int (iI ((ty : Nat) : Int)), .ref m6, .int (iI ((nx : Nat) : Int)), .int (iI (fi)), .int (iI (se)), .int (iI ((le : Nat) : Int)), .ref m7, .int (iI (bp)), .ref m8])), (m1, .inl (cI, 516, .inl (rI (sF cn en ac cu co au er ki bs))))])) (QO (bI (vis (omF au) er act k))) 0 0 (fun _ => False) := by
  refine startO (cc := cX5_isVisible) (maxL := 4) (ret := (some .boolean)) (by decide) rfl (Nat.le_of_ble_eq_true rfl) ?_
  intro p e s m below meth c S hr hlocks hE hP ls hl
  have hx := S.1
  have hb := S.2.1
  have hown := S.2.2.2.1
  have hts := S.2.2.2.2
  have hK := hE.1
  have hl : lv_has ls 4 [(0, .ref hm), (1, .int (iI ((k : Nat) : Int))), (2, .int (iI ((act : Nat) : Int)))] := hl
  have hak := hau k
  have hek := her k
  have hal := @Nat.and_le_left (er k) act
  have hb1 := tb1 act (au k).toNat
  have hsl := Nat.shiftRight_le act (au k).toNat
  have hsa := @Nat.and_le_left (act >>> (au k).toNat) 1
  refine lv_aload_n hx hb dX5_isVisible_0 rfl (lv_at hl 0 rfl) ?_
  refine va_get (D := D) (ci := 5) (v := .ref m1) (C := RX5) (T := TX5) (N := 17) hx hb hts nX5_isVisible_X5 hown hK hP 0 rfl rfl 0 (by decide) (hts _ kX5_isVisible_7) (fun _ h9 => h9) rfl dX5_isVisible_1 ?_
  refine r_sipush hx hb dX5_isVisible_4 (by decide) ?_
  refine lv_iload_n hx hb dX5_isVisible_7 rfl (lv_at hl 1 rfl) ?_
  refine r_iadd (v := ((164 + k : Nat) : Int)) hx hb (rfl) dX5_isVisible_8 ?_
  refine r_ialdV (v := (au k)) hx hb hK hP 1 0 rfl rfl (164 + k) (rfl) (by first | omega | (exact vis_om.mpr ⟨Or.inl (by omega), by omega⟩) | (exact vis_om.mpr ⟨Or.inr (hb1.mp (by omega)), by omega⟩) | (intro h9; have h8 := vis_om.mp h9; rcases h8.1 with h7 | h7; omega; have h6 := hb1.mpr h7; omega) | (intro h9; have h8 := (vis_om.mp h9).2; omega)) (by decide) (sF_au (by first | omega | (exact vis_om.mpr ⟨Or.inl (by omega), by omega⟩) | (exact vis_om.mpr ⟨Or.inr (hb1.mp (by omega)), by omega⟩) | (intro h9; have h8 := vis_om.mp h9; rcases h8.1 with h7 | h7; omega; have h6 := hb1.mpr h7; omega) | (intro h9; have h8 := (vis_om.mp h9).2; omega))) dX5_isVisible_9 ?_
  refine lv_istore_n (lv' := [(3, .int (iI (au k))), (0, .ref hm), (1, .int (iI ((k : Nat) : Int))), (2, .int (iI ((act : Nat) : Int)))]) hx hb dX5_isVisible_10 rfl hl (by decide) rfl (fun ls hl => ?_)
  refine lv_iload_n hx hb dX5_isVisible_11 rfl (lv_at hl 0 rfl) ?_
  refine r_iconst hx hb dX5_isVisible_12 ?_
  refine r_icmp_eq (tgt := 25) hx hb (by first | omega | (exact vis_om.mpr ⟨Or.inl (by omega), by omega⟩) | (exact vis_om.mpr ⟨Or.inr (hb1.mp (by omega)), by omega⟩) | (intro h9; have h8 := vis_om.mp h9; rcases h8.1 with h7 | h7; omega; have h6 := hb1.mpr h7; omega) | (intro h9; have h8 := (vis_om.mp h9).2; omega)) (⟨by decide, by decide⟩) dX5_isVisible_13 (by decide) (fun c_1 => ?_) (fun c_1 => ?_)
  · skip
    refine lv_aload_n hx hb dX5_isVisible_25 rfl (lv_at hl 1 rfl) ?_
    refine va_get (D := D) (ci := 5) (v := .ref m1) (C := RX5) (T := TX5) (N := 17) hx hb hts nX5_isVisible_X5 hown hK hP 0 rfl rfl 0 (by decide) (hts _ kX5_isVisible_7) (fun _ h9 => h9) rfl dX5_isVisible_26 ?_
    refine r_sipush hx hb dX5_isVisible_29 (by decide) ?_
    refine lv_iload_n hx hb dX5_isVisible_32 rfl (lv_at hl 2 rfl) ?_
    refine r_iadd (v := ((324 + k : Nat) : Int)) hx hb (rfl) dX5_isVisible_33 ?_
    refine r_ialdV (v := ((er k : Nat) : Int)) hx hb hK hP 1 0 rfl rfl (324 + k) (rfl) (by first | omega | (exact vis_om.mpr ⟨Or.inl (by omega), by omega⟩) | (exact vis_om.mpr ⟨Or.inr (hb1.mp (by omega)), by omega⟩) | (intro h9; have h8 := vis_om.mp h9; rcases h8.1 with h7 | h7; omega; have h6 := hb1.mpr h7; omega) | (intro h9; have h8 := (vis_om.mp h9).2; omega)) (by decide) (sF_er (by first | omega | (exact vis_om.mpr ⟨Or.inl (by omega), by omega⟩) | (exact vis_om.mpr ⟨Or.inr (hb1.mp (by omega)), by omega⟩) | (intro h9; have h8 := vis_om.mp h9; rcases h8.1 with h7 | h7; omega; have h6 := hb1.mpr h7; omega) | (intro h9; have h8 := (vis_om.mp h9).2; omega))) dX5_isVisible_34 ?_
    refine lv_iload_n hx hb dX5_isVisible_35 rfl (lv_at hl 3 rfl) ?_
    refine r_iand hx hb (er k) (act) (rfl) (rfl) dX5_isVisible_36 ?_
    refine r_if_ne (tgt := 44) hx hb (by first | omega | (exact vis_om.mpr ⟨Or.inl (by omega), by omega⟩) | (exact vis_om.mpr ⟨Or.inr (hb1.mp (by omega)), by omega⟩) | (intro h9; have h8 := vis_om.mp h9; rcases h8.1 with h7 | h7; omega; have h6 := hb1.mpr h7; omega) | (intro h9; have h8 := (vis_om.mp h9).2; omega)) dX5_isVisible_37 (by decide) (fun c_2 => ?_) (fun c_2 => ?_)
    · skip
      refine r_iconst hx hb dX5_isVisible_44 ?_
      exact r_zretO hx hb hr hlocks ((bI_f (by first | omega | (exact vis_om.mpr ⟨Or.inl (by omega), by omega⟩) | (exact vis_om.mpr ⟨Or.inr (hb1.mp (by omega)), by omega⟩) | (intro h9; have h8 := vis_om.mp h9; rcases h8.1 with h7 | h7; omega; have h6 := hb1.mpr h7; omega) | (intro h9; have h8 := (vis_om.mp h9).2; omega))).symm) (Or.inl rfl) dX5_isVisible_45
    · skip
      refine r_iconst hx hb dX5_isVisible_40 ?_
      refine lv_goto (tgt := 45) hx hb dX5_isVisible_41 (by decide) ?_
      exact r_zretO hx hb hr hlocks ((bI_t (by first | omega | (exact vis_om.mpr ⟨Or.inl (by omega), by omega⟩) | (exact vis_om.mpr ⟨Or.inr (hb1.mp (by omega)), by omega⟩) | (intro h9; have h8 := vis_om.mp h9; rcases h8.1 with h7 | h7; omega; have h6 := hb1.mpr h7; omega) | (intro h9; have h8 := (vis_om.mp h9).2; omega))).symm) (Or.inr rfl) dX5_isVisible_45
  · skip
    refine lv_iload_n hx hb dX5_isVisible_16 rfl (lv_at hl 3 rfl) ?_
    refine lv_iload_n hx hb dX5_isVisible_17 rfl (lv_at hl 0 rfl) ?_
    refine r_ishr hx hb (act) ((au k).toNat) (rfl) (by first | omega | (exact vis_om.mpr ⟨Or.inl (by omega), by omega⟩) | (exact vis_om.mpr ⟨Or.inr (hb1.mp (by omega)), by omega⟩) | (intro h9; have h8 := vis_om.mp h9; rcases h8.1 with h7 | h7; omega; have h6 := hb1.mpr h7; omega) | (intro h9; have h8 := (vis_om.mp h9).2; omega)) (by first | omega | (exact vis_om.mpr ⟨Or.inl (by omega), by omega⟩) | (exact vis_om.mpr ⟨Or.inr (hb1.mp (by omega)), by omega⟩) | (intro h9; have h8 := vis_om.mp h9; rcases h8.1 with h7 | h7; omega; have h6 := hb1.mpr h7; omega) | (intro h9; have h8 := (vis_om.mp h9).2; omega)) (by first | omega | (exact vis_om.mpr ⟨Or.inl (by omega), by omega⟩) | (exact vis_om.mpr ⟨Or.inr (hb1.mp (by omega)), by omega⟩) | (intro h9; have h8 := vis_om.mp h9; rcases h8.1 with h7 | h7; omega; have h6 := hb1.mpr h7; omega) | (intro h9; have h8 := (vis_om.mp h9).2; omega)) dX5_isVisible_18 ?_
    refine r_iconst hx hb dX5_isVisible_19 ?_
    refine r_iand hx hb (act >>> ((au k).toNat)) (1) (rfl) (rfl) dX5_isVisible_20 ?_
    refine r_iconst hx hb dX5_isVisible_21 ?_
    refine r_icmp_ne (tgt := 44) hx hb (by first | omega | (exact vis_om.mpr ⟨Or.inl (by omega), by omega⟩) | (exact vis_om.mpr ⟨Or.inr (hb1.mp (by omega)), by omega⟩) | (intro h9; have h8 := vis_om.mp h9; rcases h8.1 with h7 | h7; omega; have h6 := hb1.mpr h7; omega) | (intro h9; have h8 := (vis_om.mp h9).2; omega)) (⟨by decide, by decide⟩) dX5_isVisible_22 (by decide) (fun c_3 => ?_) (fun c_3 => ?_)
    · skip
      refine r_iconst hx hb dX5_isVisible_44 ?_
      exact r_zretO hx hb hr hlocks ((bI_f (by first | omega | (exact vis_om.mpr ⟨Or.inl (by omega), by omega⟩) | (exact vis_om.mpr ⟨Or.inr (hb1.mp (by omega)), by omega⟩) | (intro h9; have h8 := vis_om.mp h9; rcases h8.1 with h7 | h7; omega; have h6 := hb1.mpr h7; omega) | (intro h9; have h8 := (vis_om.mp h9).2; omega))).symm) (Or.inl rfl) dX5_isVisible_45
    · skip
      refine lv_aload_n hx hb dX5_isVisible_25 rfl (lv_at hl 1 rfl) ?_
      refine va_get (D := D) (ci := 5) (v := .ref m1) (C := RX5) (T := TX5) (N := 17) hx hb hts nX5_isVisible_X5 hown hK hP 0 rfl rfl 0 (by decide) (hts _ kX5_isVisible_7) (fun _ h9 => h9) rfl dX5_isVisible_26 ?_
      refine r_sipush hx hb dX5_isVisible_29 (by decide) ?_
      refine lv_iload_n hx hb dX5_isVisible_32 rfl (lv_at hl 2 rfl) ?_
      refine r_iadd (v := ((324 + k : Nat) : Int)) hx hb (rfl) dX5_isVisible_33 ?_
      refine r_ialdV (v := ((er k : Nat) : Int)) hx hb hK hP 1 0 rfl rfl (324 + k) (rfl) (by first | omega | (exact vis_om.mpr ⟨Or.inl (by omega), by omega⟩) | (exact vis_om.mpr ⟨Or.inr (hb1.mp (by omega)), by omega⟩) | (intro h9; have h8 := vis_om.mp h9; rcases h8.1 with h7 | h7; omega; have h6 := hb1.mpr h7; omega) | (intro h9; have h8 := (vis_om.mp h9).2; omega)) (by decide) (sF_er (by first | omega | (exact vis_om.mpr ⟨Or.inl (by omega), by omega⟩) | (exact vis_om.mpr ⟨Or.inr (hb1.mp (by omega)), by omega⟩) | (intro h9; have h8 := vis_om.mp h9; rcases h8.1 with h7 | h7; omega; have h6 := hb1.mpr h7; omega) | (intro h9; have h8 := (vis_om.mp h9).2; omega))) dX5_isVisible_34 ?_
      refine lv_iload_n hx hb dX5_isVisible_35 rfl (lv_at hl 3 rfl) ?_
      refine r_iand hx hb (er k) (act) (rfl) (rfl) dX5_isVisible_36 ?_
      refine r_if_ne (tgt := 44) hx hb (by first | omega | (exact vis_om.mpr ⟨Or.inl (by omega), by omega⟩) | (exact vis_om.mpr ⟨Or.inr (hb1.mp (by omega)), by omega⟩) | (intro h9; have h8 := vis_om.mp h9; rcases h8.1 with h7 | h7; omega; have h6 := hb1.mpr h7; omega) | (intro h9; have h8 := (vis_om.mp h9).2; omega)) dX5_isVisible_37 (by decide) (fun c_4 => ?_) (fun c_4 => ?_)
      · skip
        refine r_iconst hx hb dX5_isVisible_44 ?_
        exact r_zretO hx hb hr hlocks ((bI_f (by first | omega | (exact vis_om.mpr ⟨Or.inl (by omega), by omega⟩) | (exact vis_om.mpr ⟨Or.inr (hb1.mp (by omega)), by omega⟩) | (intro h9; have h8 := vis_om.mp h9; rcases h8.1 with h7 | h7; omega; have h6 := hb1.mpr h7; omega) | (intro h9; have h8 := (vis_om.mp h9).2; omega))).symm) (Or.inl rfl) dX5_isVisible_45
      · skip
        refine r_iconst hx hb dX5_isVisible_40 ?_
        refine lv_goto (tgt := 45) hx hb dX5_isVisible_41 (by decide) ?_
        exact r_zretO hx hb hr hlocks ((bI_t (by first | omega | (exact vis_om.mpr ⟨Or.inl (by omega), by omega⟩) | (exact vis_om.mpr ⟨Or.inr (hb1.mp (by omega)), by omega⟩) | (intro h9; have h8 := vis_om.mp h9; rcases h8.1 with h7 | h7; omega; have h6 := hb1.mpr h7; omega) | (intro h9; have h8 := (vis_om.mp h9).2; omega))).symm) (Or.inr rfl) dX5_isVisible_45

theorem kX5_lengthBy_7 : Cond.fieldLink RX5 7 "PricedUndoModel" "s" "[I" ∈ wsX5_lengthBy := by decide +kernel
theorem nX5_lengthBy_X5 : ∀ w ∈ u_ws RX5 TX5 17, w ∈ wsX5_lengthBy := by decide +kernel
set_option maxHeartbeats 4000000 in
set_option maxRecDepth 100000 in
theorem m_lengthBy (l : Launch) (D : va_G) (cI cB cZ cO : ClassId) (hm : Nat) (m1 : Nat) (m2 : Nat) (m3 : Nat) (m4 : Nat) (m5 : Nat) (m6 : Nat) (m7 : Nat) (m8 : Nat) (pa : Nat) (pb : Nat) (cp : Nat) (ty : Nat) (nx : Nat) (fi : Int) (se : Int) (le : Nat) (bp : Int) (cn : Nat) (en : Nat) (ac : Nat) (cu : Nat) (co : Nat → Nat) (au : Nat → Int) (er : Nat → Nat) (ki : Nat → Nat) (bs : Nat → Int) (act : Nat) (hcn : cn ≤ 160) (hact : act < 65536) (hau : ∀ k, -1 ≤ au k ∧ au k < 16) (her : ∀ k, er k < 65536) : Met l yX5_lengthBy wsX5_lengthBy ({ frames := 1, cells := 0, slots := 0, locals := 23 }) (va_Pc [.ref hm, .int (iI ((act : Nat) : Int))] (RO D cI cB cZ cO [(hm, .inr (5, [.ref m1, .ref m2, .ref m3, .int (iI ((pa : Nat) : Int)), .int (iI ((pb : Nat) : Int)), .ref m4, .int (iI ((cp : Nat) : Int)), .ref m5, .int (iI ((ty : Nat) : Int)), .ref m6, .int (iI ((nx : Nat) : Int)), .int (iI (fi)), .int (iI (se)), .int (iI ((le : Nat) : Int)), .ref m7, .int (iI (bp)), .ref m8])), (m1, .inl (cI, 516, .inl (rI (sF cn en ac cu co au er ki bs))))])) (QO ((cnt (visb (omF au) er act) cn : Nat) : Int)) 0 0 (fun _ => False) := by
  refine startO (cc := cX5_lengthBy) (maxL := 4) (ret := (some .int)) (by decide) rfl (Nat.le_of_ble_eq_true rfl) ?_
  intro p e s m below meth c S hr hlocks hE hP ls hl
  have hx := S.1
  have hb := S.2.1
  have hown := S.2.2.2.1
  have hts := S.2.2.2.2
  have hK := hE.1
  have hl : lv_has ls 4 [(0, .ref hm), (1, .int (iI ((act : Nat) : Int)))] := hl
  refine r_iconst hx hb dX5_lengthBy_0 ?_
  refine lv_istore_n (lv' := [(2, .int (iI 0)), (0, .ref hm), (1, .int (iI ((act : Nat) : Int)))]) hx hb dX5_lengthBy_1 rfl hl (by decide) rfl (fun ls hl => ?_)
  refine r_iconst hx hb dX5_lengthBy_2 ?_
  refine lv_istore_n (lv' := [(3, .int (iI 0)), (2, .int (iI 0)), (0, .ref hm), (1, .int (iI ((act : Nat) : Int)))]) hx hb dX5_lengthBy_3 rfl hl (by decide) rfl (fun ls hl => ?_)
  have loop_4 : ∀ (n_4 : Nat) (k : Nat), (cn - k) < n_4 → (k ≤ cn) → ∀ (ls : Array Slot), lv_has ls 4 [(0, .ref hm), (1, .int (iI ((act : Nat) : Int))), (2, .int (iI ((cnt (visb (omF au) er act) k : Nat) : Int))), (3, .int (iI ((k : Nat) : Int)))] → W p l e ({ frames := 1, cells := 0, slots := 0, locals := 23 }) s m ([.ref hm, .int (iI ((act : Nat) : Int))] : List Value).toArray below meth c s.heap [] 0 0 (MQ below (QO ((cnt (visb (omF au) er act) cn : Nat) : Int)) ([.ref hm, .int (iI ((act : Nat) : Int))] : List Value).toArray s 0 0 (fun _ => False)) (F0 m 4 ls []) := by
    intro n_4
    induction n_4 with
    | zero => intro k h_meas; exact absurd h_meas (Nat.not_lt_zero _)
    | succ n_4 ih_4 =>
      intro k h_m4 ik ls hl
      refine lv_iload_n hx hb dX5_lengthBy_4 rfl (lv_at hl 3 rfl) ?_
      refine lv_aload_n hx hb dX5_lengthBy_5 rfl (lv_at hl 0 rfl) ?_
      refine va_get (D := D) (ci := 5) (v := .ref m1) (C := RX5) (T := TX5) (N := 17) hx hb hts nX5_lengthBy_X5 hown hK hP 0 rfl rfl 0 (by decide) (hts _ kX5_lengthBy_7) (fun _ h9 => h9) rfl dX5_lengthBy_6 ?_
      refine r_iconst hx hb dX5_lengthBy_9 ?_
      refine r_ialdV (v := ((cn : Nat) : Int)) hx hb hK hP 1 0 rfl rfl (0) (rfl) (by decide) (by decide) (rfl) dX5_lengthBy_10 ?_
      refine r_icmp_ge (tgt := 37) hx hb (by first | omega | (rw [show k = cn by omega])) (by first | omega | (rw [show k = cn by omega])) dX5_lengthBy_11 (by decide) (fun c_1 => ?_) (fun c_1 => ?_)
      · skip
        refine lv_iload_n hx hb dX5_lengthBy_37 rfl (lv_at hl 2 rfl) ?_
        exact r_iretO hx hb hr hlocks (by first | omega | (rw [show k = cn by omega])) dX5_lengthBy_38
      · skip
        refine lv_iload_n hx hb dX5_lengthBy_14 rfl (lv_at hl 2 rfl) ?_
        refine lv_aload_n hx hb dX5_lengthBy_15 rfl (lv_at hl 0 rfl) ?_
        refine lv_iload_n hx hb dX5_lengthBy_16 rfl (lv_at hl 3 rfl) ?_
        refine lv_iload_n hx hb dX5_lengthBy_17 rfl (lv_at hl 1 rfl) ?_
        refine callVO (n := 2) (As := [.int (iI ((k : Nat) : Int)), .int (iI ((act : Nat) : Int))]) (rest := [.int (iI ((cnt (visb (omF au) er act) k : Nat) : Int))]) (wc := [(hm, .inr (5, [.ref m1, .ref m2, .ref m3, .int (iI ((pa : Nat) : Int)), .int (iI ((pb : Nat) : Int)), .ref m4, .int (iI ((cp : Nat) : Int)), .ref m5, .int (iI ((ty : Nat) : Int)), .ref m6, .int (iI ((nx : Nat) : Int)), .int (iI (fi)), .int (iI (se)), .int (iI ((le : Nat) : Int)), .ref m7, .int (iI (bp)), .ref m8])), (m1, .inl (cI, 516, .inl (rI (sF cn en ac cu co au er ki bs))))]) S (m_isVisible l D cI cB cZ cO hm m1 m2 m3 m4 m5 m6 m7 m8 pa pb cp ty nx fi se le bp cn en ac cu co au er ki bs k act (by first | assumption | (first | omega | (rw [show k = cn by omega]))) (by first | assumption | (first | omega | (rw [show k = cn by omega]))) (by first | assumption | (first | omega | (rw [show k = cn by omega]))) (by first | assumption | (first | omega | (rw [show k = cn by omega])))) gX5_lengthBy_X5_isVisible rfl ⟨rfl, rfl⟩ (by decide +kernel) ⟨Nat.le_of_ble_eq_true rfl, Nat.le_of_ble_eq_true rfl⟩ hE hP [0, 1] rfl 5 0 rfl rfl rfl hl.1 rfl (Nat.le_of_ble_eq_true rfl) dX5_lengthBy_18 ⟨Nat.le_of_ble_eq_true rfl, Nat.le_of_ble_eq_true rfl⟩ ?_
        refine r_ifb_eq (tgt := 28) hx hb dX5_lengthBy_21 (by decide) (fun c_2 => ?_) (fun c_2 => ?_)
        · skip
          refine r_iconst hx hb dX5_lengthBy_28 ?_
          refine r_iadd (v := (((cnt (visb (omF au) er act) k) + 0 : Nat) : Int)) hx hb (rfl) dX5_lengthBy_29 ?_
          refine lv_istore_n (lv' := [(2, .int (iI (((cnt (visb (omF au) er act) k) + 0 : Nat) : Int))), (0, .ref hm), (1, .int (iI ((act : Nat) : Int))), (3, .int (iI ((k : Nat) : Int)))]) hx hb dX5_lengthBy_30 rfl hl (by decide) rfl (fun ls hl => ?_)
          refine lv_iinc (v := iI ((k + 1 : Nat) : Int)) (lv' := [(3, .int (iI ((k + 1 : Nat) : Int))), (2, .int (iI (((cnt (visb (omF au) er act) k) + 0 : Nat) : Int))), (0, .ref hm), (1, .int (iI ((act : Nat) : Int)))]) hx hb dX5_lengthBy_31 hl (k := 3) rfl ((iI_add _ _).trans (ii (rfl))) (by decide) rfl (fun ls hl => ?_)
          refine lv_goto (tgt := 4) hx hb dX5_lengthBy_34 (by decide) ?_
          have hl : lv_has ls 4 [(3, .int (iI ((k + 1 : Nat) : Int))), (2, .int (iI ((cnt (visb (omF au) er act) (k + 1) : Nat) : Int))), (0, .ref hm), (1, .int (iI ((act : Nat) : Int)))] := lv_chg hl 1 2 rfl (show ((((cnt (visb (omF au) er act) k) + 0 : Nat) : Int) : Int) = ((cnt (visb (omF au) er act) (k + 1) : Nat) : Int) from by first | (rw [cnt_vt (by assumption)]) | (rw [cnt_vf (by assumption)]; rfl) | (rw [cnt_vf (by assumption)])) rfl
          exact ih_4 (k + 1) (by first | omega | (rw [show k = cn by omega])) (by first | assumption | (first | omega | (rw [show k = cn by omega]))) ls (lv_sub hl [2, 3, 1, 0] rfl)
        · skip
          refine r_iconst hx hb dX5_lengthBy_24 ?_
          refine lv_goto (tgt := 29) hx hb dX5_lengthBy_25 (by decide) ?_
          refine r_iadd (v := (((cnt (visb (omF au) er act) k) + 1 : Nat) : Int)) hx hb (rfl) dX5_lengthBy_29 ?_
          refine lv_istore_n (lv' := [(2, .int (iI (((cnt (visb (omF au) er act) k) + 1 : Nat) : Int))), (0, .ref hm), (1, .int (iI ((act : Nat) : Int))), (3, .int (iI ((k : Nat) : Int)))]) hx hb dX5_lengthBy_30 rfl hl (by decide) rfl (fun ls hl => ?_)
          refine lv_iinc (v := iI ((k + 1 : Nat) : Int)) (lv' := [(3, .int (iI ((k + 1 : Nat) : Int))), (2, .int (iI (((cnt (visb (omF au) er act) k) + 1 : Nat) : Int))), (0, .ref hm), (1, .int (iI ((act : Nat) : Int)))]) hx hb dX5_lengthBy_31 hl (k := 3) rfl ((iI_add _ _).trans (ii (rfl))) (by decide) rfl (fun ls hl => ?_)
          refine lv_goto (tgt := 4) hx hb dX5_lengthBy_34 (by decide) ?_
          have hl : lv_has ls 4 [(3, .int (iI ((k + 1 : Nat) : Int))), (2, .int (iI ((cnt (visb (omF au) er act) (k + 1) : Nat) : Int))), (0, .ref hm), (1, .int (iI ((act : Nat) : Int)))] := lv_chg hl 1 2 rfl (show ((((cnt (visb (omF au) er act) k) + 1 : Nat) : Int) : Int) = ((cnt (visb (omF au) er act) (k + 1) : Nat) : Int) from by first | (rw [cnt_vt (by assumption)]) | (rw [cnt_vf (by assumption)]; rfl) | (rw [cnt_vf (by assumption)])) rfl
          exact ih_4 (k + 1) (by first | omega | (rw [show k = cn by omega])) (by first | assumption | (first | omega | (rw [show k = cn by omega]))) ls (lv_sub hl [2, 3, 1, 0] rfl)
  have hl : lv_has ls 4 [(3, .int (iI 0)), (2, .int (iI ((cnt (visb (omF au) er act) 0 : Nat) : Int))), (0, .ref hm), (1, .int (iI ((act : Nat) : Int)))] := lv_chg hl 1 2 rfl (show (0 : Int) = ((cnt (visb (omF au) er act) 0 : Nat) : Int) from by rfl) rfl
  exact loop_4 ((cn - 0) + 1) 0 (by first | omega | (rw [show k = cn by omega])) (by first | assumption | (first | omega | (rw [show k = cn by omega]))) ls (lv_sub hl [2, 3, 1, 0] rfl)

set_option maxHeartbeats 4000000 in
set_option maxRecDepth 100000 in
theorem m_ahead (l : Launch) (D : va_G) (cI cB cZ cO : ClassId) (hm : Nat) (m1 : Nat) (m2 : Nat) (m3 : Nat) (m4 : Nat) (m5 : Nat) (m6 : Nat) (m7 : Nat) (m8 : Nat) (pa : Nat) (pb : Nat) (cp : Nat) (ty : Nat) (nx : Nat) (fi : Int) (se : Int) (le : Nat) (bp : Int) (cn : Nat) (en : Nat) (ac : Nat) (cu : Nat) (co : Nat → Nat) (au : Nat → Int) (er : Nat → Nat) (ki : Nat → Nat) (bs : Nat → Int) (q1 : Nat) (act : Nat) (hcn : cn ≤ 160) (hact : act < 65536) (hau : ∀ k, -1 ≤ au k ∧ au k < 16) (her : ∀ k, er k < 65536) (hq : q1 ≤ 160) : Met l yX5_ahead wsX5_ahead ({ frames := 1, cells := 0, slots := 0, locals := 23 }) (va_Pc [.ref hm, .int (iI ((q1 : Nat) : Int)), .int (iI ((act : Nat) : Int))] (RO D cI cB cZ cO [(hm, .inr (5, [.ref m1, .ref m2, .ref m3, .int (iI ((pa : Nat) : Int)), .int (iI ((pb : Nat) : Int)), .ref m4, .int (iI ((cp : Nat) : Int)), .ref m5, .int (iI ((ty : Nat) : Int)), .ref m6, .int (iI ((nx : Nat) : Int)), .int (iI (fi)), .int (iI (se)), .int (iI ((le : Nat) : Int)), .ref m7, .int (iI (bp)), .ref m8])), (m1, .inl (cI, 516, .inl (rI (sF cn en ac cu co au er ki bs))))])) (QO ((cnt (visb (omF au) er act) q1 : Nat) : Int)) 0 0 (fun _ => False) := by
  refine startO (cc := cX5_ahead) (maxL := 5) (ret := (some .int)) (by decide) rfl (Nat.le_of_ble_eq_true rfl) ?_
  intro p e s m below meth c S hr hlocks hE hP ls hl
  have hx := S.1
  have hb := S.2.1
  have hown := S.2.2.2.1
  have hts := S.2.2.2.2
  have hK := hE.1
  have hl : lv_has ls 5 [(0, .ref hm), (1, .int (iI ((q1 : Nat) : Int))), (2, .int (iI ((act : Nat) : Int)))] := hl
  refine r_iconst hx hb dX5_ahead_0 ?_
  refine lv_istore_n (lv' := [(3, .int (iI 0)), (0, .ref hm), (1, .int (iI ((q1 : Nat) : Int))), (2, .int (iI ((act : Nat) : Int)))]) hx hb dX5_ahead_1 rfl hl (by decide) rfl (fun ls hl => ?_)
  refine r_iconst hx hb dX5_ahead_2 ?_
  refine lv_istore (lv' := [(4, .int (iI 0)), (3, .int (iI 0)), (0, .ref hm), (1, .int (iI ((q1 : Nat) : Int))), (2, .int (iI ((act : Nat) : Int)))]) hx hb dX5_ahead_3 hl (by decide) rfl (fun ls hl => ?_)
  have loop_5 : ∀ (n_5 : Nat) (k : Nat), (q1 - k) < n_5 → (k ≤ q1) → ∀ (ls : Array Slot), lv_has ls 5 [(0, .ref hm), (1, .int (iI ((q1 : Nat) : Int))), (2, .int (iI ((act : Nat) : Int))), (3, .int (iI ((cnt (visb (omF au) er act) k : Nat) : Int))), (4, .int (iI ((k : Nat) : Int)))] → W p l e ({ frames := 1, cells := 0, slots := 0, locals := 23 }) s m ([.ref hm, .int (iI ((q1 : Nat) : Int)), .int (iI ((act : Nat) : Int))] : List Value).toArray below meth c s.heap [] 0 0 (MQ below (QO ((cnt (visb (omF au) er act) q1 : Nat) : Int)) ([.ref hm, .int (iI ((q1 : Nat) : Int)), .int (iI ((act : Nat) : Int))] : List Value).toArray s 0 0 (fun _ => False)) (F0 m 5 ls []) := by
    intro n_5
    induction n_5 with
    | zero => intro k h_meas; exact absurd h_meas (Nat.not_lt_zero _)
    | succ n_5 ih_5 =>
      intro k h_m5 ik ls hl
      refine lv_iload hx hb dX5_ahead_5 (lv_at hl 4 rfl) ?_
      refine lv_iload_n hx hb dX5_ahead_7 rfl (lv_at hl 1 rfl) ?_
      refine r_icmp_ge (tgt := 35) hx hb (by first | omega | (rw [show k = q1 by omega])) (by first | omega | (rw [show k = q1 by omega])) dX5_ahead_8 (by decide) (fun c_1 => ?_) (fun c_1 => ?_)
      · skip
        refine lv_iload_n hx hb dX5_ahead_35 rfl (lv_at hl 3 rfl) ?_
        exact r_iretO hx hb hr hlocks (by first | omega | (rw [show k = q1 by omega])) dX5_ahead_36
      · skip
        refine lv_iload_n hx hb dX5_ahead_11 rfl (lv_at hl 3 rfl) ?_
        refine lv_aload_n hx hb dX5_ahead_12 rfl (lv_at hl 0 rfl) ?_
        refine lv_iload hx hb dX5_ahead_13 (lv_at hl 4 rfl) ?_
        refine lv_iload_n hx hb dX5_ahead_15 rfl (lv_at hl 2 rfl) ?_
        refine callVO (n := 2) (As := [.int (iI ((k : Nat) : Int)), .int (iI ((act : Nat) : Int))]) (rest := [.int (iI ((cnt (visb (omF au) er act) k : Nat) : Int))]) (wc := [(hm, .inr (5, [.ref m1, .ref m2, .ref m3, .int (iI ((pa : Nat) : Int)), .int (iI ((pb : Nat) : Int)), .ref m4, .int (iI ((cp : Nat) : Int)), .ref m5, .int (iI ((ty : Nat) : Int)), .ref m6, .int (iI ((nx : Nat) : Int)), .int (iI (fi)), .int (iI (se)), .int (iI ((le : Nat) : Int)), .ref m7, .int (iI (bp)), .ref m8])), (m1, .inl (cI, 516, .inl (rI (sF cn en ac cu co au er ki bs))))]) S (m_isVisible l D cI cB cZ cO hm m1 m2 m3 m4 m5 m6 m7 m8 pa pb cp ty nx fi se le bp cn en ac cu co au er ki bs k act (by first | assumption | (first | omega | (rw [show k = q1 by omega]))) (by first | assumption | (first | omega | (rw [show k = q1 by omega]))) (by first | assumption | (first | omega | (rw [show k = q1 by omega]))) (by first | assumption | (first | omega | (rw [show k = q1 by omega])))) gX5_ahead_X5_isVisible rfl ⟨rfl, rfl⟩ (by decide +kernel) ⟨Nat.le_of_ble_eq_true rfl, Nat.le_of_ble_eq_true rfl⟩ hE hP [0, 1] rfl 5 0 rfl rfl rfl hl.1 rfl (Nat.le_of_ble_eq_true rfl) dX5_ahead_16 ⟨Nat.le_of_ble_eq_true rfl, Nat.le_of_ble_eq_true rfl⟩ ?_
        refine r_ifb_eq (tgt := 26) hx hb dX5_ahead_19 (by decide) (fun c_2 => ?_) (fun c_2 => ?_)
        · skip
          refine r_iconst hx hb dX5_ahead_26 ?_
          refine r_iadd (v := (((cnt (visb (omF au) er act) k) + 0 : Nat) : Int)) hx hb (rfl) dX5_ahead_27 ?_
          refine lv_istore_n (lv' := [(3, .int (iI (((cnt (visb (omF au) er act) k) + 0 : Nat) : Int))), (0, .ref hm), (1, .int (iI ((q1 : Nat) : Int))), (2, .int (iI ((act : Nat) : Int))), (4, .int (iI ((k : Nat) : Int)))]) hx hb dX5_ahead_28 rfl hl (by decide) rfl (fun ls hl => ?_)
          refine lv_iinc (v := iI ((k + 1 : Nat) : Int)) (lv' := [(4, .int (iI ((k + 1 : Nat) : Int))), (3, .int (iI (((cnt (visb (omF au) er act) k) + 0 : Nat) : Int))), (0, .ref hm), (1, .int (iI ((q1 : Nat) : Int))), (2, .int (iI ((act : Nat) : Int)))]) hx hb dX5_ahead_29 hl (k := 4) rfl ((iI_add _ _).trans (ii (rfl))) (by decide) rfl (fun ls hl => ?_)
          refine lv_goto (tgt := 5) hx hb dX5_ahead_32 (by decide) ?_
          have hl : lv_has ls 5 [(4, .int (iI ((k + 1 : Nat) : Int))), (3, .int (iI ((cnt (visb (omF au) er act) (k + 1) : Nat) : Int))), (0, .ref hm), (1, .int (iI ((q1 : Nat) : Int))), (2, .int (iI ((act : Nat) : Int)))] := lv_chg hl 1 3 rfl (show ((((cnt (visb (omF au) er act) k) + 0 : Nat) : Int) : Int) = ((cnt (visb (omF au) er act) (k + 1) : Nat) : Int) from by first | (rw [cnt_vt (by assumption)]) | (rw [cnt_vf (by assumption)]; rfl) | (rw [cnt_vf (by assumption)])) rfl
          exact ih_5 (k + 1) (by first | omega | (rw [show k = q1 by omega])) (by first | assumption | (first | omega | (rw [show k = q1 by omega]))) ls (lv_sub hl [2, 3, 4, 1, 0] rfl)
        · skip
          refine r_iconst hx hb dX5_ahead_22 ?_
          refine lv_goto (tgt := 27) hx hb dX5_ahead_23 (by decide) ?_
          refine r_iadd (v := (((cnt (visb (omF au) er act) k) + 1 : Nat) : Int)) hx hb (rfl) dX5_ahead_27 ?_
          refine lv_istore_n (lv' := [(3, .int (iI (((cnt (visb (omF au) er act) k) + 1 : Nat) : Int))), (0, .ref hm), (1, .int (iI ((q1 : Nat) : Int))), (2, .int (iI ((act : Nat) : Int))), (4, .int (iI ((k : Nat) : Int)))]) hx hb dX5_ahead_28 rfl hl (by decide) rfl (fun ls hl => ?_)
          refine lv_iinc (v := iI ((k + 1 : Nat) : Int)) (lv' := [(4, .int (iI ((k + 1 : Nat) : Int))), (3, .int (iI (((cnt (visb (omF au) er act) k) + 1 : Nat) : Int))), (0, .ref hm), (1, .int (iI ((q1 : Nat) : Int))), (2, .int (iI ((act : Nat) : Int)))]) hx hb dX5_ahead_29 hl (k := 4) rfl ((iI_add _ _).trans (ii (rfl))) (by decide) rfl (fun ls hl => ?_)
          refine lv_goto (tgt := 5) hx hb dX5_ahead_32 (by decide) ?_
          have hl : lv_has ls 5 [(4, .int (iI ((k + 1 : Nat) : Int))), (3, .int (iI ((cnt (visb (omF au) er act) (k + 1) : Nat) : Int))), (0, .ref hm), (1, .int (iI ((q1 : Nat) : Int))), (2, .int (iI ((act : Nat) : Int)))] := lv_chg hl 1 3 rfl (show ((((cnt (visb (omF au) er act) k) + 1 : Nat) : Int) : Int) = ((cnt (visb (omF au) er act) (k + 1) : Nat) : Int) from by first | (rw [cnt_vt (by assumption)]) | (rw [cnt_vf (by assumption)]; rfl) | (rw [cnt_vf (by assumption)])) rfl
          exact ih_5 (k + 1) (by first | omega | (rw [show k = q1 by omega])) (by first | assumption | (first | omega | (rw [show k = q1 by omega]))) ls (lv_sub hl [2, 3, 4, 1, 0] rfl)
  have hl : lv_has ls 5 [(4, .int (iI 0)), (3, .int (iI ((cnt (visb (omF au) er act) 0 : Nat) : Int))), (0, .ref hm), (1, .int (iI ((q1 : Nat) : Int))), (2, .int (iI ((act : Nat) : Int)))] := lv_chg hl 1 3 rfl (show (0 : Int) = ((cnt (visb (omF au) er act) 0 : Nat) : Int) from by rfl) rfl
  exact loop_5 ((q1 - 0) + 1) 0 (by first | omega | (rw [show k = q1 by omega])) (by first | assumption | (first | omega | (rw [show k = q1 by omega]))) ls (lv_sub hl [2, 3, 4, 1, 0] rfl)

theorem kX5_length_7 : Cond.fieldLink RX5 7 "PricedUndoModel" "s" "[I" ∈ wsX5_length := by decide +kernel
theorem nX5_length_X5 : ∀ w ∈ u_ws RX5 TX5 17, w ∈ wsX5_length := by decide +kernel
set_option maxHeartbeats 4000000 in
set_option maxRecDepth 100000 in
theorem m_length (l : Launch) (D : va_G) (cI cB cZ cO : ClassId) (hm : Nat) (m1 : Nat) (m2 : Nat) (m3 : Nat) (m4 : Nat) (m5 : Nat) (m6 : Nat) (m7 : Nat) (m8 : Nat) (pa : Nat) (pb : Nat) (cp : Nat) (ty : Nat) (nx : Nat) (fi : Int) (se : Int) (le : Nat) (bp : Int) (cn : Nat) (en : Nat) (ac : Nat) (cu : Nat) (co : Nat → Nat) (au : Nat → Int) (er : Nat → Nat) (ki : Nat → Nat) (bs : Nat → Int) (hcn : cn ≤ 160) (hac : ac < 65536) (hau : ∀ k, -1 ≤ au k ∧ au k < 16) (her : ∀ k, er k < 65536) : Met l yX5_length wsX5_length ({ frames := 2, cells := 0, slots := 0, locals := 46 }) (va_Pc [.ref hm] (RO D cI cB cZ cO [(hm, .inr (5, [.ref m1, .ref m2, .ref m3, .int (iI ((pa : Nat) : Int)), .int (iI ((pb : Nat) : Int)), .ref m4, .int (iI ((cp : Nat) : Int)), .ref m5, .int (iI ((ty : Nat) : Int)), .ref m6, .int (iI ((nx : Nat) : Int)), .int (iI (fi)), .int (iI (se)), .int (iI ((le : Nat) : Int)), .ref m7, .int (iI (bp)), .ref m8])), (m1, .inl (cI, 516, .inl (rI (sF cn en ac cu co au er ki bs))))])) (QO ((cnt (visb (omF au) er ac) cn : Nat) : Int)) 0 0 (fun _ => False) := by
  refine startO (cc := cX5_length) (maxL := 1) (ret := (some .int)) (by decide) rfl (Nat.le_of_ble_eq_true rfl) ?_
  intro p e s m below meth c S hr hlocks hE hP ls hl
  have hx := S.1
  have hb := S.2.1
  have hown := S.2.2.2.1
  have hts := S.2.2.2.2
  have hK := hE.1
  have hl : lv_has ls 1 [(0, .ref hm)] := hl
  refine lv_aload_n hx hb dX5_length_0 rfl (lv_at hl 0 rfl) ?_
  refine lv_aload_n hx hb dX5_length_1 rfl (lv_at hl 0 rfl) ?_
  refine va_get (D := D) (ci := 5) (v := .ref m1) (C := RX5) (T := TX5) (N := 17) hx hb hts nX5_length_X5 hown hK hP 0 rfl rfl 0 (by decide) (hts _ kX5_length_7) (fun _ h9 => h9) rfl dX5_length_2 ?_
  refine r_iconst hx hb dX5_length_5 ?_
  refine r_ialdV (v := ((ac : Nat) : Int)) hx hb hK hP 1 0 rfl rfl (2) (rfl) (by decide) (by decide) (rfl) dX5_length_6 ?_
  refine callVO (n := 1) (As := [.int (iI ((ac : Nat) : Int))]) (rest := []) (wc := [(hm, .inr (5, [.ref m1, .ref m2, .ref m3, .int (iI ((pa : Nat) : Int)), .int (iI ((pb : Nat) : Int)), .ref m4, .int (iI ((cp : Nat) : Int)), .ref m5, .int (iI ((ty : Nat) : Int)), .ref m6, .int (iI ((nx : Nat) : Int)), .int (iI (fi)), .int (iI (se)), .int (iI ((le : Nat) : Int)), .ref m7, .int (iI (bp)), .ref m8])), (m1, .inl (cI, 516, .inl (rI (sF cn en ac cu co au er ki bs))))]) S (m_lengthBy l D cI cB cZ cO hm m1 m2 m3 m4 m5 m6 m7 m8 pa pb cp ty nx fi se le bp cn en ac cu co au er ki bs ac (by first | assumption | (omega)) (by first | assumption | (omega)) (by first | assumption | (omega)) (by first | assumption | (omega))) gX5_length_X5_lengthBy rfl ⟨rfl, rfl⟩ (by decide +kernel) ⟨Nat.le_of_ble_eq_true rfl, Nat.le_of_ble_eq_true rfl⟩ hE hP [0, 1] rfl 5 0 rfl rfl rfl hl.1 rfl (Nat.le_of_ble_eq_true rfl) dX5_length_7 ⟨Nat.le_of_ble_eq_true rfl, Nat.le_of_ble_eq_true rfl⟩ ?_
  exact r_iretO hx hb hr hlocks (rfl) dX5_length_10

theorem kX5_at_7 : Cond.fieldLink RX5 7 "PricedUndoModel" "s" "[I" ∈ wsX5_at := by decide +kernel
theorem nX5_at_X5 : ∀ w ∈ u_ws RX5 TX5 17, w ∈ wsX5_at := by decide +kernel
set_option maxHeartbeats 4000000 in
set_option maxRecDepth 100000 in
theorem m_at (l : Launch) (D : va_G) (cI cB cZ cO : ClassId) (hm : Nat) (m1 : Nat) (m2 : Nat) (m3 : Nat) (m4 : Nat) (m5 : Nat) (m6 : Nat) (m7 : Nat) (m8 : Nat) (pa : Nat) (pb : Nat) (cp : Nat) (ty : Nat) (nx : Nat) (fi : Int) (se : Int) (le : Nat) (bp : Int) (cn : Nat) (en : Nat) (ac : Nat) (cu : Nat) (co : Nat → Nat) (au : Nat → Int) (er : Nat → Nat) (ki : Nat → Nat) (bs : Nat → Int) (j : Nat) (hcn : cn ≤ 160) (hac : ac < 65536) (hau : ∀ k, -1 ≤ au k ∧ au k < 16) (her : ∀ k, er k < 65536) (hj : j < 2147483648) : Met l yX5_at wsX5_at ({ frames := 1, cells := 0, slots := 0, locals := 23 }) (va_Pc [.ref hm, .int (iI ((j : Nat) : Int))] (RO D cI cB cZ cO [(hm, .inr (5, [.ref m1, .ref m2, .ref m3, .int (iI ((pa : Nat) : Int)), .int (iI ((pb : Nat) : Int)), .ref m4, .int (iI ((cp : Nat) : Int)), .ref m5, .int (iI ((ty : Nat) : Int)), .ref m6, .int (iI ((nx : Nat) : Int)), .int (iI (fi)), .int (iI (se)), .int (iI ((le : Nat) : Int)), .ref m7, .int (iI (bp)), .ref m8])), (m1, .inl (cI, 516, .inl (rI (sF cn en ac cu co au er ki bs))))])) (QO (atv (visb (omF au) er ac) cn j)) 0 0 (fun _ => False) := by
  refine startO (cc := cX5_at) (maxL := 4) (ret := (some .int)) (by decide) rfl (Nat.le_of_ble_eq_true rfl) ?_
  intro p e s m below meth c S hr hlocks hE hP ls hl
  have hx := S.1
  have hb := S.2.1
  have hown := S.2.2.2.1
  have hts := S.2.2.2.2
  have hK := hE.1
  have hl : lv_has ls 4 [(0, .ref hm), (1, .int (iI ((j : Nat) : Int)))] := hl
  refine lv_iload_n hx hb dX5_at_0 rfl (lv_at hl 1 rfl) ?_
  refine lv_istore_n (lv' := [(2, .int (iI ((j : Nat) : Int))), (0, .ref hm), (1, .int (iI ((j : Nat) : Int)))]) hx hb dX5_at_1 rfl hl (by decide) rfl (fun ls hl => ?_)
  refine r_iconst hx hb dX5_at_2 ?_
  refine lv_istore_n (lv' := [(3, .int (iI 0)), (2, .int (iI ((j : Nat) : Int))), (0, .ref hm), (1, .int (iI ((j : Nat) : Int)))]) hx hb dX5_at_3 rfl hl (by decide) rfl (fun ls hl => ?_)
  have loop_4 : ∀ (n_4 : Nat) (k : Nat), (cn - k) < n_4 → (k ≤ cn) → (cnt (visb (omF au) er ac) k ≤ j) → ∀ (ls : Array Slot), lv_has ls 4 [(0, .ref hm), (1, .int (iI ((j : Nat) : Int))), (2, .int (iI ((j : Int) - ((cnt (visb (omF au) er ac) k : Nat) : Int)))), (3, .int (iI ((k : Nat) : Int)))] → W p l e ({ frames := 1, cells := 0, slots := 0, locals := 23 }) s m ([.ref hm, .int (iI ((j : Nat) : Int))] : List Value).toArray below meth c s.heap [] 0 0 (MQ below (QO (atv (visb (omF au) er ac) cn j)) ([.ref hm, .int (iI ((j : Nat) : Int))] : List Value).toArray s 0 0 (fun _ => False)) (F0 m 4 ls []) := by
    intro n_4
    induction n_4 with
    | zero => intro k h_meas; exact absurd h_meas (Nat.not_lt_zero _)
    | succ n_4 ih_4 =>
      intro k h_m4 ik ic ls hl
      have hcl := cnt_le (visb (omF au) er ac) k
      refine lv_iload_n hx hb dX5_at_4 rfl (lv_at hl 3 rfl) ?_
      refine lv_aload_n hx hb dX5_at_5 rfl (lv_at hl 0 rfl) ?_
      refine va_get (D := D) (ci := 5) (v := .ref m1) (C := RX5) (T := TX5) (N := 17) hx hb hts nX5_at_X5 hown hK hP 0 rfl rfl 0 (by decide) (hts _ kX5_at_7) (fun _ h9 => h9) rfl dX5_at_6 ?_
      refine r_iconst hx hb dX5_at_9 ?_
      refine r_ialdV (v := ((cn : Nat) : Int)) hx hb hK hP 1 0 rfl rfl (0) (rfl) (by decide) (by decide) (rfl) dX5_at_10 ?_
      refine r_icmp_ge (tgt := 43) hx hb (by first | omega | exact (atv_k (by omega) (vis_t (by assumption)) (by omega)).symm | (rw [atv_n]; rw [show k = cn by omega] at ic; omega)) (by first | omega | exact (atv_k (by omega) (vis_t (by assumption)) (by omega)).symm | (rw [atv_n]; rw [show k = cn by omega] at ic; omega)) dX5_at_11 (by decide) (fun c_1 => ?_) (fun c_1 => ?_)
      · skip
        refine r_bipush hx hb dX5_at_43 (by decide) ?_
        exact r_iretO hx hb hr hlocks (by first | omega | exact (atv_k (by omega) (vis_t (by assumption)) (by omega)).symm | (rw [atv_n]; rw [show k = cn by omega] at ic; omega)) dX5_at_45
      · skip
        refine lv_aload_n hx hb dX5_at_14 rfl (lv_at hl 0 rfl) ?_
        refine lv_iload_n hx hb dX5_at_15 rfl (lv_at hl 3 rfl) ?_
        refine lv_aload_n hx hb dX5_at_16 rfl (lv_at hl 0 rfl) ?_
        refine va_get (D := D) (ci := 5) (v := .ref m1) (C := RX5) (T := TX5) (N := 17) hx hb hts nX5_at_X5 hown hK hP 0 rfl rfl 0 (by decide) (hts _ kX5_at_7) (fun _ h9 => h9) rfl dX5_at_17 ?_
        refine r_iconst hx hb dX5_at_20 ?_
        refine r_ialdV (v := ((ac : Nat) : Int)) hx hb hK hP 1 0 rfl rfl (2) (rfl) (by decide) (by decide) (rfl) dX5_at_21 ?_
        refine callVO (n := 2) (As := [.int (iI ((k : Nat) : Int)), .int (iI ((ac : Nat) : Int))]) (rest := []) (wc := [(hm, .inr (5, [.ref m1, .ref m2, .ref m3, .int (iI ((pa : Nat) : Int)), .int (iI ((pb : Nat) : Int)), .ref m4, .int (iI ((cp : Nat) : Int)), .ref m5, .int (iI ((ty : Nat) : Int)), .ref m6, .int (iI ((nx : Nat) : Int)), .int (iI (fi)), .int (iI (se)), .int (iI ((le : Nat) : Int)), .ref m7, .int (iI (bp)), .ref m8])), (m1, .inl (cI, 516, .inl (rI (sF cn en ac cu co au er ki bs))))]) S (m_isVisible l D cI cB cZ cO hm m1 m2 m3 m4 m5 m6 m7 m8 pa pb cp ty nx fi se le bp cn en ac cu co au er ki bs k ac (by first | assumption | (first | omega | exact (atv_k (by omega) (vis_t (by assumption)) (by omega)).symm | (rw [atv_n]; rw [show k = cn by omega] at ic; omega))) (by first | assumption | (first | omega | exact (atv_k (by omega) (vis_t (by assumption)) (by omega)).symm | (rw [atv_n]; rw [show k = cn by omega] at ic; omega))) (by first | assumption | (first | omega | exact (atv_k (by omega) (vis_t (by assumption)) (by omega)).symm | (rw [atv_n]; rw [show k = cn by omega] at ic; omega))) (by first | assumption | (first | omega | exact (atv_k (by omega) (vis_t (by assumption)) (by omega)).symm | (rw [atv_n]; rw [show k = cn by omega] at ic; omega)))) gX5_at_X5_isVisible rfl ⟨rfl, rfl⟩ (by decide +kernel) ⟨Nat.le_of_ble_eq_true rfl, Nat.le_of_ble_eq_true rfl⟩ hE hP [0, 1] rfl 5 0 rfl rfl rfl hl.1 rfl (Nat.le_of_ble_eq_true rfl) dX5_at_22 ⟨Nat.le_of_ble_eq_true rfl, Nat.le_of_ble_eq_true rfl⟩ ?_
        refine r_ifb_eq (tgt := 37) hx hb dX5_at_25 (by decide) (fun c_2 => ?_) (fun c_2 => ?_)
        · skip
          refine lv_iinc (v := iI ((k + 1 : Nat) : Int)) (lv' := [(3, .int (iI ((k + 1 : Nat) : Int))), (0, .ref hm), (1, .int (iI ((j : Nat) : Int))), (2, .int (iI ((j : Int) - ((cnt (visb (omF au) er ac) k : Nat) : Int))))]) hx hb dX5_at_37 hl (k := 3) rfl ((iI_add _ _).trans (ii (rfl))) (by decide) rfl (fun ls hl => ?_)
          refine lv_goto (tgt := 4) hx hb dX5_at_40 (by decide) ?_
          have hl : lv_has ls 4 [(3, .int (iI ((k + 1 : Nat) : Int))), (0, .ref hm), (1, .int (iI ((j : Nat) : Int))), (2, .int (iI ((j : Int) - ((cnt (visb (omF au) er ac) (k + 1) : Nat) : Int))))] := lv_chg hl 3 2 rfl (show (((j : Int) - ((cnt (visb (omF au) er ac) k : Nat) : Int)) : Int) = ((j : Int) - ((cnt (visb (omF au) er ac) (k + 1) : Nat) : Int)) from by first | (rw [cnt_vt (by assumption)]; omega) | (rw [cnt_vf (by assumption)])) rfl
          exact ih_4 (k + 1) (by first | omega | exact (atv_k (by omega) (vis_t (by assumption)) (by omega)).symm | (rw [atv_n]; rw [show k = cn by omega] at ic; omega)) (by first | assumption | (first | omega | exact (atv_k (by omega) (vis_t (by assumption)) (by omega)).symm | (rw [atv_n]; rw [show k = cn by omega] at ic; omega))) (by first | (rw [cnt_vt (by assumption)]; omega) | (rw [cnt_vf (by assumption)]; assumption)) ls (lv_sub hl [1, 2, 3, 0] rfl)
        · skip
          refine lv_iload_n hx hb dX5_at_28 rfl (lv_at hl 2 rfl) ?_
          refine r_if_ne (tgt := 34) hx hb (by first | omega | exact (atv_k (by omega) (vis_t (by assumption)) (by omega)).symm | (rw [atv_n]; rw [show k = cn by omega] at ic; omega)) dX5_at_29 (by decide) (fun c_3 => ?_) (fun c_3 => ?_)
          · skip
            refine lv_iinc (v := iI (((j : Int) - ((cnt (visb (omF au) er ac) k : Nat) : Int)) + (-1))) (lv' := [(2, .int (iI (((j : Int) - ((cnt (visb (omF au) er ac) k : Nat) : Int)) + (-1)))), (0, .ref hm), (1, .int (iI ((j : Nat) : Int))), (3, .int (iI ((k : Nat) : Int)))]) hx hb dX5_at_34 hl (k := 2) rfl ((iI_add _ _).trans (ii (rfl))) (by decide) rfl (fun ls hl => ?_)
            refine lv_iinc (v := iI ((k + 1 : Nat) : Int)) (lv' := [(3, .int (iI ((k + 1 : Nat) : Int))), (2, .int (iI (((j : Int) - ((cnt (visb (omF au) er ac) k : Nat) : Int)) + (-1)))), (0, .ref hm), (1, .int (iI ((j : Nat) : Int)))]) hx hb dX5_at_37 hl (k := 3) rfl ((iI_add _ _).trans (ii (rfl))) (by decide) rfl (fun ls hl => ?_)
            refine lv_goto (tgt := 4) hx hb dX5_at_40 (by decide) ?_
            have hl : lv_has ls 4 [(3, .int (iI ((k + 1 : Nat) : Int))), (2, .int (iI ((j : Int) - ((cnt (visb (omF au) er ac) (k + 1) : Nat) : Int)))), (0, .ref hm), (1, .int (iI ((j : Nat) : Int)))] := lv_chg hl 1 2 rfl (show ((((j : Int) - ((cnt (visb (omF au) er ac) k : Nat) : Int)) + (-1)) : Int) = ((j : Int) - ((cnt (visb (omF au) er ac) (k + 1) : Nat) : Int)) from by first | (rw [cnt_vt (by assumption)]; omega) | (rw [cnt_vf (by assumption)])) rfl
            exact ih_4 (k + 1) (by first | omega | exact (atv_k (by omega) (vis_t (by assumption)) (by omega)).symm | (rw [atv_n]; rw [show k = cn by omega] at ic; omega)) (by first | assumption | (first | omega | exact (atv_k (by omega) (vis_t (by assumption)) (by omega)).symm | (rw [atv_n]; rw [show k = cn by omega] at ic; omega))) (by first | (rw [cnt_vt (by assumption)]; omega) | (rw [cnt_vf (by assumption)]; assumption)) ls (lv_sub hl [2, 3, 1, 0] rfl)
          · skip
            refine lv_iload_n hx hb dX5_at_32 rfl (lv_at hl 3 rfl) ?_
            exact r_iretO hx hb hr hlocks (by first | omega | exact (atv_k (by omega) (vis_t (by assumption)) (by omega)).symm | (rw [atv_n]; rw [show k = cn by omega] at ic; omega)) dX5_at_33
  have hl : lv_has ls 4 [(3, .int (iI 0)), (2, .int (iI ((j : Int) - ((cnt (visb (omF au) er ac) 0 : Nat) : Int)))), (0, .ref hm), (1, .int (iI ((j : Nat) : Int)))] := lv_chg hl 1 2 rfl (show (((j : Nat) : Int) : Int) = ((j : Int) - ((cnt (visb (omF au) er ac) 0 : Nat) : Int)) from by rfl) rfl
  exact loop_4 ((cn - 0) + 1) 0 (by first | omega | exact (atv_k (by omega) (vis_t (by assumption)) (by omega)).symm | (rw [atv_n]; rw [show k = cn by omega] at ic; omega)) (by first | assumption | (first | omega | exact (atv_k (by omega) (vis_t (by assumption)) (by omega)).symm | (rw [atv_n]; rw [show k = cn by omega] at ic; omega))) (by exact Nat.zero_le _) ls (lv_sub hl [2, 3, 1, 0] rfl)

theorem kX5_cutsCursor_7 : Cond.fieldLink RX5 7 "PricedUndoModel" "s" "[I" ∈ wsX5_cutsCursor := by decide +kernel
theorem nX5_cutsCursor_X5 : ∀ w ∈ u_ws RX5 TX5 17, w ∈ wsX5_cutsCursor := by decide +kernel
set_option maxHeartbeats 4000000 in
set_option maxRecDepth 100000 in
theorem m_cutsCursor (l : Launch) (D : va_G) (cI cB cZ cO : ClassId) (sz : Nat) (hm : Nat) (m1 : Nat) (m2 : Nat) (m3 : Nat) (m4 : Nat) (m5 : Nat) (m6 : Nat) (m7 : Nat) (m8 : Nat) (pa : Nat) (pb : Nat) (cp : Nat) (ty : Nat) (nx : Nat) (fi : Int) (se : Int) (le : Nat) (bp : Int) (cn : Nat) (en : Nat) (ac : Nat) (cu : Nat) (co : Nat → Nat) (au : Nat → Int) (er : Nat → Nat) (ki : Nat → Nat) (bs : Nat → Int) (hcn : cn ≤ 160) (hac : ac < 65536) (hau : ∀ k, -1 ≤ au k ∧ au k < 16) (her : ∀ k, er k < 65536) (hcu : cu ≤ 160) : Met l yX5_cutsCursor wsX5_cutsCursor ({ frames := 3, cells := 0, slots := 0, locals := 66 }) (va_Pc [.ref hm] (RW D cI cB cZ cO sz [(hm, .inr (5, [.ref m1, .ref m2, .ref m3, .int (iI ((pa : Nat) : Int)), .int (iI ((pb : Nat) : Int)), .ref m4, .int (iI ((cp : Nat) : Int)), .ref m5, .int (iI ((ty : Nat) : Int)), .ref m6, .int (iI ((nx : Nat) : Int)), .int (iI (fi)), .int (iI (se)), .int (iI ((le : Nat) : Int)), .ref m7, .int (iI (bp)), .ref m8])), (m1, .inl (cI, 516, .inl (rI (sF cn en ac cu co au er ki bs))))])) (QX D (S := Unit) (fun u => none) (fun u => True) (fun u => [(hm, .inr (5, [.ref m1, .ref m2, .ref m3, .int (iI ((pa : Nat) : Int)), .int (iI ((pb : Nat) : Int)), .ref m4, .int (iI ((cp : Nat) : Int)), .ref m5, .int (iI ((ty : Nat) : Int)), .ref m6, .int (iI ((nx : Nat) : Int)), .int (iI (fi)), .int (iI (se)), .int (iI ((le : Nat) : Int)), .ref m7, .int (iI (bp)), .ref m8])), (m1, .inl (cI, 516, .inl (rI (sF cn en ac (min cu (cnt (visb (omF au) er ac) cn)) co au er ki bs))))]) (va_A [(hm, .inr (5, [.ref m1, .ref m2, .ref m3, .int (iI ((pa : Nat) : Int)), .int (iI ((pb : Nat) : Int)), .ref m4, .int (iI ((cp : Nat) : Int)), .ref m5, .int (iI ((ty : Nat) : Int)), .ref m6, .int (iI ((nx : Nat) : Int)), .int (iI (fi)), .int (iI (se)), .int (iI ((le : Nat) : Int)), .ref m7, .int (iI (bp)), .ref m8])), (m1, .inl (cI, 516, .inl (rI (sF cn en ac cu co au er ki bs))))] sz)) 0 0 (va_A [(hm, .inr (5, [.ref m1, .ref m2, .ref m3, .int (iI ((pa : Nat) : Int)), .int (iI ((pb : Nat) : Int)), .ref m4, .int (iI ((cp : Nat) : Int)), .ref m5, .int (iI ((ty : Nat) : Int)), .ref m6, .int (iI ((nx : Nat) : Int)), .int (iI (fi)), .int (iI (se)), .int (iI ((le : Nat) : Int)), .ref m7, .int (iI (bp)), .ref m8])), (m1, .inl (cI, 516, .inl (rI (sF cn en ac cu co au er ki bs))))] sz) := by
  refine startW (cc := cX5_cutsCursor) (maxL := 2) (ret := none) (by decide) rfl (Nat.le_of_ble_eq_true rfl) ?_
  intro p e s m below meth c S hr hlocks hE hP A hD hA hS ls hl
  have hx := S.1
  have hb := S.2.1
  have hown := S.2.2.2.1
  have hts := S.2.2.2.2
  have hK := hE.1
  have hl : lv_has ls 2 [(0, .ref hm)] := hl
  have hcl := cnt_le (visb (omF au) er ac) cn
  refine lv_aload_n hx hb dX5_cutsCursor_0 rfl (lv_at hl 0 rfl) ?_
  refine callVO (n := 0) (As := []) (rest := []) (wc := [(hm, .inr (5, [.ref m1, .ref m2, .ref m3, .int (iI ((pa : Nat) : Int)), .int (iI ((pb : Nat) : Int)), .ref m4, .int (iI ((cp : Nat) : Int)), .ref m5, .int (iI ((ty : Nat) : Int)), .ref m6, .int (iI ((nx : Nat) : Int)), .int (iI (fi)), .int (iI (se)), .int (iI ((le : Nat) : Int)), .ref m7, .int (iI (bp)), .ref m8])), (m1, .inl (cI, 516, .inl (rI (sF cn en ac cu co au er ki bs))))]) S (m_length l D cI cB cZ cO hm m1 m2 m3 m4 m5 m6 m7 m8 pa pb cp ty nx fi se le bp cn en ac cu co au er ki bs (by first | assumption | (omega)) (by first | assumption | (omega)) (by first | assumption | (omega)) (by first | assumption | (omega))) gX5_cutsCursor_X5_length rfl ⟨rfl, rfl⟩ (by decide +kernel) ⟨Nat.le_of_ble_eq_true rfl, Nat.le_of_ble_eq_true rfl⟩ hE hP [0, 1] rfl 5 0 rfl rfl rfl hl.1 rfl (Nat.le_of_ble_eq_true rfl) dX5_cutsCursor_1 ⟨Nat.le_of_ble_eq_true rfl, Nat.le_of_ble_eq_true rfl⟩ ?_
  refine lv_istore_n (lv' := [(1, .int (iI ((cnt (visb (omF au) er ac) cn : Nat) : Int))), (0, .ref hm)]) hx hb dX5_cutsCursor_4 rfl hl (by decide) rfl (fun ls hl => ?_)
  refine lv_aload_n hx hb dX5_cutsCursor_5 rfl (lv_at hl 1 rfl) ?_
  refine va_get (D := D) (ci := 5) (v := .ref m1) (C := RX5) (T := TX5) (N := 17) hx hb hts nX5_cutsCursor_X5 hown hK hP 0 rfl rfl 0 (by decide) (hts _ kX5_cutsCursor_7) (fun _ h9 => h9) rfl dX5_cutsCursor_6 ?_
  refine r_iconst hx hb dX5_cutsCursor_9 ?_
  refine lv_aload_n hx hb dX5_cutsCursor_10 rfl (lv_at hl 1 rfl) ?_
  refine va_get (D := D) (ci := 5) (v := .ref m1) (C := RX5) (T := TX5) (N := 17) hx hb hts nX5_cutsCursor_X5 hown hK hP 0 rfl rfl 0 (by decide) (hts _ kX5_cutsCursor_7) (fun _ h9 => h9) rfl dX5_cutsCursor_11 ?_
  refine r_iconst hx hb dX5_cutsCursor_14 ?_
  refine r_ialdV (v := ((cu : Nat) : Int)) hx hb hK hP 1 0 rfl rfl (3) (rfl) (by decide) (by decide) (rfl) dX5_cutsCursor_15 ?_
  refine lv_iload_n hx hb dX5_cutsCursor_16 rfl (lv_at hl 0 rfl) ?_
  refine r_icmp_le (tgt := 24) hx hb (by omega) (by omega) dX5_cutsCursor_17 (by decide) (fun c_1 => ?_) (fun c_1 => ?_)
  · skip
    refine lv_aload_n hx hb dX5_cutsCursor_24 rfl (lv_at hl 1 rfl) ?_
    refine va_get (D := D) (ci := 5) (v := .ref m1) (C := RX5) (T := TX5) (N := 17) hx hb hts nX5_cutsCursor_X5 hown hK hP 0 rfl rfl 0 (by decide) (hts _ kX5_cutsCursor_7) (fun _ h9 => h9) rfl dX5_cutsCursor_25 ?_
    refine r_iconst hx hb dX5_cutsCursor_28 ?_
    refine r_ialdV (v := ((cu : Nat) : Int)) hx hb hK hP 1 0 rfl rfl (3) (rfl) (by decide) (by decide) (rfl) dX5_cutsCursor_29 ?_
    refine r_iastV (g := sF cn en ac cu co au er ki bs) (v := ((cu : Nat) : Int)) hx hb hK hP hD hS 1 0 rfl rfl (3) (rfl) (by decide) (by decide) (sF_ucu) dX5_cutsCursor_30 (fun H locs hP hD hS => ?_)
    have hP : va_P D vwCl [(hm, .inr (5, [.ref m1, .ref m2, .ref m3, .int (iI ((pa : Nat) : Int)), .int (iI ((pb : Nat) : Int)), .ref m4, .int (iI ((cp : Nat) : Int)), .ref m5, .int (iI ((ty : Nat) : Int)), .ref m6, .int (iI ((nx : Nat) : Int)), .int (iI (fi)), .int (iI (se)), .int (iI ((le : Nat) : Int)), .ref m7, .int (iI (bp)), .ref m8])), (m1, .inl (cI, 516, .inl (rI (sF cn en ac cu co au er ki bs))))] H := hP
    have hD : va_D A [(hm, .inr (5, [.ref m1, .ref m2, .ref m3, .int (iI ((pa : Nat) : Int)), .int (iI ((pb : Nat) : Int)), .ref m4, .int (iI ((cp : Nat) : Int)), .ref m5, .int (iI ((ty : Nat) : Int)), .ref m6, .int (iI ((nx : Nat) : Int)), .int (iI (fi)), .int (iI (se)), .int (iI ((le : Nat) : Int)), .ref m7, .int (iI (bp)), .ref m8])), (m1, .inl (cI, 516, .inl (rI (sF cn en ac cu co au er ki bs))))] := hD
    exact r_vretX hx hb hr hlocks hP hD hS () rfl (trivial) (by first | (rw [show min cu (cnt (visb (omF au) er ac) cn) = cu by omega]) | (rw [show min cu (cnt (visb (omF au) er ac) cn) = cnt (visb (omF au) er ac) cn by omega])) dX5_cutsCursor_31
  · skip
    refine lv_iload_n hx hb dX5_cutsCursor_20 rfl (lv_at hl 0 rfl) ?_
    refine lv_goto (tgt := 30) hx hb dX5_cutsCursor_21 (by decide) ?_
    refine r_iastV (g := sF cn en ac (cnt (visb (omF au) er ac) cn) co au er ki bs) (v := ((cnt (visb (omF au) er ac) cn : Nat) : Int)) hx hb hK hP hD hS 1 0 rfl rfl (3) (rfl) (by decide) (by decide) (sF_ucu) dX5_cutsCursor_30 (fun H locs hP hD hS => ?_)
    have hP : va_P D vwCl [(hm, .inr (5, [.ref m1, .ref m2, .ref m3, .int (iI ((pa : Nat) : Int)), .int (iI ((pb : Nat) : Int)), .ref m4, .int (iI ((cp : Nat) : Int)), .ref m5, .int (iI ((ty : Nat) : Int)), .ref m6, .int (iI ((nx : Nat) : Int)), .int (iI (fi)), .int (iI (se)), .int (iI ((le : Nat) : Int)), .ref m7, .int (iI (bp)), .ref m8])), (m1, .inl (cI, 516, .inl (rI (sF cn en ac (cnt (visb (omF au) er ac) cn) co au er ki bs))))] H := hP
    have hD : va_D A [(hm, .inr (5, [.ref m1, .ref m2, .ref m3, .int (iI ((pa : Nat) : Int)), .int (iI ((pb : Nat) : Int)), .ref m4, .int (iI ((cp : Nat) : Int)), .ref m5, .int (iI ((ty : Nat) : Int)), .ref m6, .int (iI ((nx : Nat) : Int)), .int (iI (fi)), .int (iI (se)), .int (iI ((le : Nat) : Int)), .ref m7, .int (iI (bp)), .ref m8])), (m1, .inl (cI, 516, .inl (rI (sF cn en ac (cnt (visb (omF au) er ac) cn) co au er ki bs))))] := hD
    exact r_vretX hx hb hr hlocks hP hD hS () rfl (trivial) (by first | (rw [show min cu (cnt (visb (omF au) er ac) cn) = cu by omega]) | (rw [show min cu (cnt (visb (omF au) er ac) cn) = cnt (visb (omF au) er ac) cn by omega])) dX5_cutsCursor_31

theorem kX5_isEdit_7 : Cond.fieldLink RX5 7 "PricedUndoModel" "s" "[I" ∈ wsX5_isEdit := by decide +kernel
theorem nX5_isEdit_X5 : ∀ w ∈ u_ws RX5 TX5 17, w ∈ wsX5_isEdit := by decide +kernel
set_option maxHeartbeats 4000000 in
set_option maxRecDepth 100000 in
theorem m_isEdit (l : Launch) (D : va_G) (cI cB cZ cO : ClassId) (hm : Nat) (m1 : Nat) (m2 : Nat) (m3 : Nat) (m4 : Nat) (m5 : Nat) (m6 : Nat) (m7 : Nat) (m8 : Nat) (pa : Nat) (pb : Nat) (cp : Nat) (ty : Nat) (nx : Nat) (fi : Int) (se : Int) (le : Nat) (bp : Int) (cn : Nat) (en : Nat) (ac : Nat) (cu : Nat) (co : Nat → Nat) (au : Nat → Int) (er : Nat → Nat) (ki : Nat → Nat) (bs : Nat → Int) (x : Int) (hen : en ≤ 16) (rx : rg x) : Met l yX5_isEdit wsX5_isEdit ({ frames := 1, cells := 0, slots := 0, locals := 22 }) (va_Pc [.ref hm, .int (iI (x))] (RO D cI cB cZ cO [(hm, .inr (5, [.ref m1, .ref m2, .ref m3, .int (iI ((pa : Nat) : Int)), .int (iI ((pb : Nat) : Int)), .ref m4, .int (iI ((cp : Nat) : Int)), .ref m5, .int (iI ((ty : Nat) : Int)), .ref m6, .int (iI ((nx : Nat) : Int)), .int (iI (fi)), .int (iI (se)), .int (iI ((le : Nat) : Int)), .ref m7, .int (iI (bp)), .ref m8])), (m1, .inl (cI, 516, .inl (rI (sF cn en ac cu co au er ki bs))))])) (QO (bI (0 ≤ x ∧ x < (en : Int)))) 0 0 (fun _ => False) := by
  refine startO (cc := cX5_isEdit) (maxL := 2) (ret := (some .boolean)) (by decide) rfl (Nat.le_of_ble_eq_true rfl) ?_
  intro p e s m below meth c S hr hlocks hE hP ls hl
  have hx := S.1
  have hb := S.2.1
  have hown := S.2.2.2.1
  have hts := S.2.2.2.2
  have hK := hE.1
  have hl : lv_has ls 2 [(0, .ref hm), (1, .int (iI (x)))] := hl
  refine lv_iload_n hx hb dX5_isEdit_0 rfl (lv_at hl 1 rfl) ?_
  refine r_iconst hx hb dX5_isEdit_1 ?_
  refine lv_aload_n hx hb dX5_isEdit_2 rfl (lv_at hl 0 rfl) ?_
  refine va_get (D := D) (ci := 5) (v := .ref m1) (C := RX5) (T := TX5) (N := 17) hx hb hts nX5_isEdit_X5 hown hK hP 0 rfl rfl 0 (by decide) (hts _ kX5_isEdit_7) (fun _ h9 => h9) rfl dX5_isEdit_3 ?_
  refine r_iconst hx hb dX5_isEdit_6 ?_
  refine r_ialdV (v := ((en : Nat) : Int)) hx hb hK hP 1 0 rfl rfl (1) (rfl) (by decide) (by decide) (rfl) dX5_isEdit_7 ?_
  refine r_iconst hx hb dX5_isEdit_8 ?_
  refine r_isub (v := (((en : Nat) : Int) - 1)) hx hb (rfl) dX5_isEdit_9 ?_
  rw [show (0 : Int) = (0) from by first | omega | (constructor <;> intro h9 <;> omega)]
  refine callSO (n := 3) (As := [.int (iI (x)), .int (iI (0)), .int (iI (((en : Nat) : Int) - 1))]) (rest := []) (wc := []) S (m_in l D cI cB cZ cO x 0 (((en : Nat) : Int) - 1) (by first | assumption | (first | omega | (constructor <;> intro h9 <;> omega))) (by first | assumption | (first | omega | (constructor <;> intro h9 <;> omega))) (by first | assumption | (first | omega | (constructor <;> intro h9 <;> omega)))) gX5_isEdit_X5_in rfl ⟨rfl, rfl⟩ (by decide +kernel) ⟨Nat.le_of_ble_eq_true rfl, Nat.le_of_ble_eq_true rfl⟩ hE hP [] rfl rfl hl.1 rfl (Nat.le_of_ble_eq_true rfl) dX5_isEdit_10 ⟨Nat.le_of_ble_eq_true rfl, Nat.le_of_ble_eq_true rfl⟩ ?_
  exact r_zretO hx hb hr hlocks (bI_c (by first | omega | (constructor <;> intro h9 <;> omega))) (bI_01 _) dX5_isEdit_13

theorem kX5_isActive_7 : Cond.fieldLink RX5 7 "PricedUndoModel" "s" "[I" ∈ wsX5_isActive := by decide +kernel
theorem nX5_isActive_X5 : ∀ w ∈ u_ws RX5 TX5 17, w ∈ wsX5_isActive := by decide +kernel
set_option maxHeartbeats 4000000 in
set_option maxRecDepth 100000 in
theorem m_isActive (l : Launch) (D : va_G) (cI cB cZ cO : ClassId) (hm : Nat) (m1 : Nat) (m2 : Nat) (m3 : Nat) (m4 : Nat) (m5 : Nat) (m6 : Nat) (m7 : Nat) (m8 : Nat) (pa : Nat) (pb : Nat) (cp : Nat) (ty : Nat) (nx : Nat) (fi : Int) (se : Int) (le : Nat) (bp : Int) (cn : Nat) (en : Nat) (ac : Nat) (cu : Nat) (co : Nat → Nat) (au : Nat → Int) (er : Nat → Nat) (ki : Nat → Nat) (bs : Nat → Int) (e1 : Nat) (hac : ac < 65536) (he1 : e1 < 31) : Met l yX5_isActive wsX5_isActive ({ frames := 0, cells := 0, slots := 0, locals := 0 }) (va_Pc [.ref hm, .int (iI ((e1 : Nat) : Int))] (RO D cI cB cZ cO [(hm, .inr (5, [.ref m1, .ref m2, .ref m3, .int (iI ((pa : Nat) : Int)), .int (iI ((pb : Nat) : Int)), .ref m4, .int (iI ((cp : Nat) : Int)), .ref m5, .int (iI ((ty : Nat) : Int)), .ref m6, .int (iI ((nx : Nat) : Int)), .int (iI (fi)), .int (iI (se)), .int (iI ((le : Nat) : Int)), .ref m7, .int (iI (bp)), .ref m8])), (m1, .inl (cI, 516, .inl (rI (sF cn en ac cu co au er ki bs))))])) (QO (bI (ac.testBit e1 = true))) 0 0 (fun _ => False) := by
  refine startO (cc := cX5_isActive) (maxL := 2) (ret := (some .boolean)) (by decide) rfl (Nat.le_of_ble_eq_true rfl) ?_
  intro p e s m below meth c S hr hlocks hE hP ls hl
  have hx := S.1
  have hb := S.2.1
  have hown := S.2.2.2.1
  have hts := S.2.2.2.2
  have hK := hE.1
  have hl : lv_has ls 2 [(0, .ref hm), (1, .int (iI ((e1 : Nat) : Int)))] := hl
  have hb1 := tb1 ac e1
  have hsl := Nat.shiftRight_le ac e1
  have hsa := @Nat.and_le_left (ac >>> e1) 1
  refine lv_aload_n hx hb dX5_isActive_0 rfl (lv_at hl 0 rfl) ?_
  refine va_get (D := D) (ci := 5) (v := .ref m1) (C := RX5) (T := TX5) (N := 17) hx hb hts nX5_isActive_X5 hown hK hP 0 rfl rfl 0 (by decide) (hts _ kX5_isActive_7) (fun _ h9 => h9) rfl dX5_isActive_1 ?_
  refine r_iconst hx hb dX5_isActive_4 ?_
  refine r_ialdV (v := ((ac : Nat) : Int)) hx hb hK hP 1 0 rfl rfl (2) (rfl) (by decide) (by decide) (rfl) dX5_isActive_5 ?_
  refine lv_iload_n hx hb dX5_isActive_6 rfl (lv_at hl 1 rfl) ?_
  refine r_ishr hx hb (ac) (e1) (rfl) (rfl) (by first | omega | exact hb1.mp (by omega) | (intro h9; have h8 := hb1.mpr h9; omega)) (by first | omega | exact hb1.mp (by omega) | (intro h9; have h8 := hb1.mpr h9; omega)) dX5_isActive_7 ?_
  refine r_iconst hx hb dX5_isActive_8 ?_
  refine r_iand hx hb (ac >>> e1) (1) (rfl) (rfl) dX5_isActive_9 ?_
  refine r_iconst hx hb dX5_isActive_10 ?_
  refine r_icmp_ne (tgt := 18) hx hb (rg_nat (Nat.le_trans hsa hsl) (by omega)) (⟨by decide, by decide⟩) dX5_isActive_11 (by decide) (fun c_1 => ?_) (fun c_1 => ?_)
  · skip
    refine r_iconst hx hb dX5_isActive_18 ?_
    exact r_zretO hx hb hr hlocks ((bI_f (by first | omega | exact hb1.mp (by omega) | (intro h9; have h8 := hb1.mpr h9; omega))).symm) (Or.inl rfl) dX5_isActive_19
  · skip
    refine r_iconst hx hb dX5_isActive_14 ?_
    refine lv_goto (tgt := 19) hx hb dX5_isActive_15 (by decide) ?_
    exact r_zretO hx hb hr hlocks ((bI_t (by first | omega | exact hb1.mp (by omega) | (intro h9; have h8 := hb1.mpr h9; omega))).symm) (Or.inr rfl) dX5_isActive_19
