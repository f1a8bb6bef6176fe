theorem kX5_placeOf_7 : Cond.fieldLink RX5 7 "PricedUndoModel" "s" "[I" ∈ wsX5_placeOf := by decide +kernel
theorem nX5_placeOf_X5 : ∀ w ∈ u_ws RX5 TX5 17, w ∈ wsX5_placeOf := by decide +kernel
set_option maxHeartbeats 4000000 in
set_option maxRecDepth 100000 in
theorem m_placeOf (l : Launch) (D : va_G) (cI cB cZ cO : ClassId) (hm : Nat) (m1 : Nat) (m2 : Nat) (m3 : Nat) (m4 : Nat) (m5 : Nat) (m6 : Nat) (m7 : Nat) (m8 : Nat) (pa : Nat) (pb : Nat) (cp : Nat) (ty : Nat) (nx : Nat) (fi : Int) (se : Int) (le : Nat) (bp : Int) (cn : Nat) (en : Nat) (ac : Nat) (cu : Nat) (co : Nat → Nat) (au : Nat → Int) (er : Nat → Nat) (ki : Nat → Nat) (bs : Nat → Int) (e1 : Nat) (hcn : cn ≤ 160) (hac : ac < 65536) (hau : ∀ k, -1 ≤ au k ∧ au k < 16) (her : ∀ k, er k < 65536) (hke : ∀ e k : Nat, k < cn → au k = (e : Int) → ki e = 0) (hex : ∀ e, e < en → ∃ k, k < cn ∧ tch (omF au) er e k = true) (hen : en ≤ 16) (hki : ∀ k, ki k ≤ 1) (he1 : e1 < en) : Met l yX5_placeOf wsX5_placeOf ({ frames := 2, cells := 0, slots := 0, locals := 47 }) (va_Pc [.ref hm, .int (iI ((e1 : Nat) : Int))] (RO D cI cB cZ cO [(hm, .inr (5, [.ref m1, .ref m2, .ref m3, .int (iI ((pa : Nat) : Int)), .int (iI ((pb : Nat) : Int)), .ref m4, .int (iI ((cp : Nat) : Int)), .ref m5, .int (iI ((ty : Nat) : Int)), .ref m6, .int (iI ((nx : Nat) : Int)), .int (iI (fi)), .int (iI (se)), .int (iI ((le : Nat) : Int)), .ref m7, .int (iI (bp)), .ref m8])), (m1, .inl (cI, 516, .inl (rI (sF cn en ac cu co au er ki bs))))])) (QO ((plc (omF au) er cn ac e1 : Nat) : Int)) 0 0 (fun _ => False) := by
  refine startO (cc := cX5_placeOf) (maxL := 3) (ret := (some .int)) (by decide) rfl (Nat.le_of_ble_eq_true rfl) ?_
  intro p e s m below meth c S hr hlocks hE hP ls hl
  have hx := S.1
  have hb := S.2.1
  have hown := S.2.2.2.1
  have hts := S.2.2.2.2
  have hK := hE.1
  have hl : lv_has ls 3 [(0, .ref hm), (1, .int (iI ((e1 : Nat) : Int)))] := hl
  refine r_iconst hx hb dX5_placeOf_0 ?_
  refine lv_istore_n (lv' := [(2, .int (iI 0)), (0, .ref hm), (1, .int (iI ((e1 : Nat) : Int)))]) hx hb dX5_placeOf_1 rfl hl (by decide) rfl (fun ls hl => ?_)
  have loop_2 : ∀ (n_2 : Nat) (k : Nat), (cn - k) < n_2 → (k ≤ cn) → (∀ j, j < k → ¬ tch (omF au) er e1 j = true) → ∀ (ls : Array Slot), lv_has ls 3 [(0, .ref hm), (1, .int (iI ((e1 : Nat) : Int))), (2, .int (iI ((k : Nat) : Int)))] → W p l e ({ frames := 2, cells := 0, slots := 0, locals := 47 }) s m ([.ref hm, .int (iI ((e1 : Nat) : Int))] : List Value).toArray below meth c s.heap [] 0 0 (MQ below (QO ((plc (omF au) er cn ac e1 : Nat) : Int)) ([.ref hm, .int (iI ((e1 : Nat) : Int))] : List Value).toArray s 0 0 (fun _ => False)) (F0 m 2 ls []) := by
    intro n_2
    induction n_2 with
    | zero => intro k h_meas; exact absurd h_meas (Nat.not_lt_zero _)
    | succ n_2 ih_2 =>
      intro k h_m2 ik ip ls hl
      have hauk := hau k
      have herk := her k
      have hkik := hki e1
      have hkek := hke e1 k
      have hsl := Nat.shiftRight_le (er k) e1
      have hsa := @Nat.and_le_left ((er k) >>> e1) 1
      have hb1 := tb1 (er k) e1
      have hb0 := tb0 (er k) e1
      refine lv_iload_n hx hb dX5_placeOf_2 rfl (lv_at hl 2 rfl) ?_
      refine lv_aload_n hx hb dX5_placeOf_3 rfl (lv_at hl 0 rfl) ?_
      refine va_get (D := D) (ci := 5) (v := .ref m1) (C := RX5) (T := TX5) (N := 17) hx hb hts nX5_placeOf_X5 hown hK hP 0 rfl rfl 0 (by decide) (hts _ kX5_placeOf_7) (fun _ h9 => h9) rfl dX5_placeOf_4 ?_
      refine r_iconst hx hb dX5_placeOf_7 ?_
      refine r_ialdV (v := ((cn : Nat) : Int)) hx hb hK hP 1 0 rfl rfl (0) (rfl) (by decide) (by decide) (rfl) dX5_placeOf_8 ?_
      refine r_icmp_ge (tgt := 75) hx hb (by first | omega | (have hkc : k < cn := (by omega); unfold plc; rw [fsF_eq ip (by omega) (fun _ => tch_om.mpr (by first | exact Or.inl (by omega) | exact Or.inr (hb1.mp (by omega))))])) (by first | omega | (have hkc : k < cn := (by omega); unfold plc; rw [fsF_eq ip (by omega) (fun _ => tch_om.mpr (by first | exact Or.inl (by omega) | exact Or.inr (hb1.mp (by omega))))])) dX5_placeOf_9 (by decide) (fun c_1 => ?_) (fun c_1 => ?_)
      · skip
        exfalso; obtain ⟨z, hz1, hz2⟩ := hex e1 he1; exact ip z (by omega) hz2
      · skip
        refine lv_aload_n hx hb dX5_placeOf_12 rfl (lv_at hl 0 rfl) ?_
        refine va_get (D := D) (ci := 5) (v := .ref m1) (C := RX5) (T := TX5) (N := 17) hx hb hts nX5_placeOf_X5 hown hK hP 0 rfl rfl 0 (by decide) (hts _ kX5_placeOf_7) (fun _ h9 => h9) rfl dX5_placeOf_13 ?_
        refine r_sipush hx hb dX5_placeOf_16 (by decide) ?_
        refine lv_iload_n hx hb dX5_placeOf_19 rfl (lv_at hl 2 rfl) ?_
        refine r_iadd (v := ((164 + k : Nat) : Int)) hx hb (rfl) dX5_placeOf_20 ?_
        refine r_ialdV (v := (au k)) hx hb hK hP 1 0 rfl rfl (164 + k) (rfl) (by first | omega | (have hkc : k < cn := (by omega); unfold plc; rw [fsF_eq ip (by omega) (fun _ => tch_om.mpr (by first | exact Or.inl (by omega) | exact Or.inr (hb1.mp (by omega))))])) (by decide) (sF_au (by first | omega | (have hkc : k < cn := (by omega); unfold plc; rw [fsF_eq ip (by omega) (fun _ => tch_om.mpr (by first | exact Or.inl (by omega) | exact Or.inr (hb1.mp (by omega))))]))) dX5_placeOf_21 ?_
        refine lv_iload_n hx hb dX5_placeOf_22 rfl (lv_at hl 1 rfl) ?_
        refine r_icmp_ne (tgt := 39) hx hb (by first | omega | (have hkc : k < cn := (by omega); unfold plc; rw [fsF_eq ip (by omega) (fun _ => tch_om.mpr (by first | exact Or.inl (by omega) | exact Or.inr (hb1.mp (by omega))))])) (by first | omega | (have hkc : k < cn := (by omega); unfold plc; rw [fsF_eq ip (by omega) (fun _ => tch_om.mpr (by first | exact Or.inl (by omega) | exact Or.inr (hb1.mp (by omega))))])) dX5_placeOf_23 (by decide) (fun c_2 => ?_) (fun c_2 => ?_)
        · skip
          refine lv_aload_n hx hb dX5_placeOf_39 rfl (lv_at hl 0 rfl) ?_
          refine va_get (D := D) (ci := 5) (v := .ref m1) (C := RX5) (T := TX5) (N := 17) hx hb hts nX5_placeOf_X5 hown hK hP 0 rfl rfl 0 (by decide) (hts _ kX5_placeOf_7) (fun _ h9 => h9) rfl dX5_placeOf_40 ?_
          refine r_sipush hx hb dX5_placeOf_43 (by decide) ?_
          refine lv_iload_n hx hb dX5_placeOf_46 rfl (lv_at hl 2 rfl) ?_
          refine r_iadd (v := ((324 + k : Nat) : Int)) hx hb (rfl) dX5_placeOf_47 ?_
          refine r_ialdV (v := ((er k : Nat) : Int)) hx hb hK hP 1 0 rfl rfl (324 + k) (rfl) (by first | omega | (have hkc : k < cn := (by omega); unfold plc; rw [fsF_eq ip (by omega) (fun _ => tch_om.mpr (by first | exact Or.inl (by omega) | exact Or.inr (hb1.mp (by omega))))])) (by decide) (sF_er (by first | omega | (have hkc : k < cn := (by omega); unfold plc; rw [fsF_eq ip (by omega) (fun _ => tch_om.mpr (by first | exact Or.inl (by omega) | exact Or.inr (hb1.mp (by omega))))]))) dX5_placeOf_48 ?_
          refine lv_iload_n hx hb dX5_placeOf_49 rfl (lv_at hl 1 rfl) ?_
          refine r_ishr hx hb (er k) (e1) (rfl) (rfl) (by first | omega | (have hkc : k < cn := (by omega); unfold plc; rw [fsF_eq ip (by omega) (fun _ => tch_om.mpr (by first | exact Or.inl (by omega) | exact Or.inr (hb1.mp (by omega))))])) (by first | omega | (have hkc : k < cn := (by omega); unfold plc; rw [fsF_eq ip (by omega) (fun _ => tch_om.mpr (by first | exact Or.inl (by omega) | exact Or.inr (hb1.mp (by omega))))])) dX5_placeOf_50 ?_
          refine r_iconst hx hb dX5_placeOf_51 ?_
          refine r_iand hx hb ((er k) >>> e1) (1) (rfl) (rfl) dX5_placeOf_52 ?_
          refine r_iconst hx hb dX5_placeOf_53 ?_
          refine r_icmp_ne (tgt := 69) hx hb (by first | omega | (have hkc : k < cn := (by omega); unfold plc; rw [fsF_eq ip (by omega) (fun _ => tch_om.mpr (by first | exact Or.inl (by omega) | exact Or.inr (hb1.mp (by omega))))])) (⟨by decide, by decide⟩) dX5_placeOf_54 (by decide) (fun c_3 => ?_) (fun c_3 => ?_)
          · skip
            refine lv_iinc (v := iI ((k + 1 : Nat) : Int)) (lv' := [(2, .int (iI ((k + 1 : Nat) : Int))), (0, .ref hm), (1, .int (iI ((e1 : Nat) : Int)))]) hx hb dX5_placeOf_69 hl (k := 2) rfl ((iI_add _ _).trans (ii (rfl))) (by decide) rfl (fun ls hl => ?_)
            refine lv_goto (tgt := 2) hx hb dX5_placeOf_72 (by decide) ?_
            exact ih_2 (k + 1) (by first | omega | (have hkc : k < cn := (by omega); unfold plc; rw [fsF_eq ip (by omega) (fun _ => tch_om.mpr (by first | exact Or.inl (by omega) | exact Or.inr (hb1.mp (by omega))))])) (by first | assumption | (first | omega | (have hkc : k < cn := (by omega); unfold plc; rw [fsF_eq ip (by omega) (fun _ => tch_om.mpr (by first | exact Or.inl (by omega) | exact Or.inr (hb1.mp (by omega))))]))) (by intro j hj; rcases Nat.lt_or_eq_of_le (Nat.le_of_lt_succ hj) with q | q; exact ip j q; (rw [q]; intro h9; rcases tch_om.mp h9 with h8 | h8; (have h7 := hkek (by omega) h8; omega); (have h7 := hb1.mpr h8; omega))) ls (lv_sub hl [1, 2, 0] rfl)
          · skip
            refine lv_aload_n hx hb dX5_placeOf_57 rfl (lv_at hl 0 rfl) ?_
            refine lv_iload_n hx hb dX5_placeOf_58 rfl (lv_at hl 2 rfl) ?_
            refine lv_aload_n hx hb dX5_placeOf_59 rfl (lv_at hl 0 rfl) ?_
            refine va_get (D := D) (ci := 5) (v := .ref m1) (C := RX5) (T := TX5) (N := 17) hx hb hts nX5_placeOf_X5 hown hK hP 0 rfl rfl 0 (by decide) (hts _ kX5_placeOf_7) (fun _ h9 => h9) rfl dX5_placeOf_60 ?_
            refine r_iconst hx hb dX5_placeOf_63 ?_
            refine r_ialdV (v := ((ac : Nat) : Int)) hx hb hK hP 1 0 rfl rfl (2) (rfl) (by decide) (by decide) (rfl) dX5_placeOf_64 ?_
            refine callVO (n := 2) (As := [.int (iI ((k : Nat) : Int)), .int (iI ((ac : Nat) : Int))]) (rest := []) (wc := [(hm, .inr (5, [.ref m1, .ref m2, .ref m3, .int (iI ((pa : Nat) : Int)), .int (iI ((pb : Nat) : Int)), .ref m4, .int (iI ((cp : Nat) : Int)), .ref m5, .int (iI ((ty : Nat) : Int)), .ref m6, .int (iI ((nx : Nat) : Int)), .int (iI (fi)), .int (iI (se)), .int (iI ((le : Nat) : Int)), .ref m7, .int (iI (bp)), .ref m8])), (m1, .inl (cI, 516, .inl (rI (sF cn en ac cu co au er ki bs))))]) S (m_ahead l D cI cB cZ cO hm m1 m2 m3 m4 m5 m6 m7 m8 pa pb cp ty nx fi se le bp cn en ac cu co au er ki bs k ac (by first | assumption | (first | omega | (have hkc : k < cn := (by omega); unfold plc; rw [fsF_eq ip (by omega) (fun _ => tch_om.mpr (by first | exact Or.inl (by omega) | exact Or.inr (hb1.mp (by omega))))]))) (by first | assumption | (first | omega | (have hkc : k < cn := (by omega); unfold plc; rw [fsF_eq ip (by omega) (fun _ => tch_om.mpr (by first | exact Or.inl (by omega) | exact Or.inr (hb1.mp (by omega))))]))) (by first | assumption | (first | omega | (have hkc : k < cn := (by omega); unfold plc; rw [fsF_eq ip (by omega) (fun _ => tch_om.mpr (by first | exact Or.inl (by omega) | exact Or.inr (hb1.mp (by omega))))]))) (by first | assumption | (first | omega | (have hkc : k < cn := (by omega); unfold plc; rw [fsF_eq ip (by omega) (fun _ => tch_om.mpr (by first | exact Or.inl (by omega) | exact Or.inr (hb1.mp (by omega))))]))) (by first | assumption | (first | omega | (have hkc : k < cn := (by omega); unfold plc; rw [fsF_eq ip (by omega) (fun _ => tch_om.mpr (by first | exact Or.inl (by omega) | exact Or.inr (hb1.mp (by omega))))])))) gX5_placeOf_X5_ahead rfl ⟨rfl, rfl⟩ (by decide +kernel) ⟨Nat.le_of_ble_eq_true rfl, Nat.le_of_ble_eq_true rfl⟩ hE hP [0, 1] rfl 5 0 rfl rfl rfl hl.1 rfl (Nat.le_of_ble_eq_true rfl) dX5_placeOf_65 ⟨Nat.le_of_ble_eq_true rfl, Nat.le_of_ble_eq_true rfl⟩ ?_
            exact r_iretO hx hb hr hlocks (by first | omega | (have hkc : k < cn := (by omega); unfold plc; rw [fsF_eq ip (by omega) (fun _ => tch_om.mpr (by first | exact Or.inl (by omega) | exact Or.inr (hb1.mp (by omega))))])) dX5_placeOf_68
        · skip
          refine lv_aload_n hx hb dX5_placeOf_26 rfl (lv_at hl 0 rfl) ?_
          refine va_get (D := D) (ci := 5) (v := .ref m1) (C := RX5) (T := TX5) (N := 17) hx hb hts nX5_placeOf_X5 hown hK hP 0 rfl rfl 0 (by decide) (hts _ kX5_placeOf_7) (fun _ h9 => h9) rfl dX5_placeOf_27 ?_
          refine r_sipush hx hb dX5_placeOf_30 (by decide) ?_
          refine lv_iload_n hx hb dX5_placeOf_33 rfl (lv_at hl 1 rfl) ?_
          refine r_iadd (v := ((484 + e1 : Nat) : Int)) hx hb (rfl) dX5_placeOf_34 ?_
          refine r_ialdV (v := ((ki e1 : Nat) : Int)) hx hb hK hP 1 0 rfl rfl (484 + e1) (rfl) (by first | omega | (have hkc : k < cn := (by omega); unfold plc; rw [fsF_eq ip (by omega) (fun _ => tch_om.mpr (by first | exact Or.inl (by omega) | exact Or.inr (hb1.mp (by omega))))])) (by decide) (sF_ki (by first | omega | (have hkc : k < cn := (by omega); unfold plc; rw [fsF_eq ip (by omega) (fun _ => tch_om.mpr (by first | exact Or.inl (by omega) | exact Or.inr (hb1.mp (by omega))))]))) dX5_placeOf_35 ?_
          refine r_if_eq (tgt := 57) hx hb (by first | omega | (have hkc : k < cn := (by omega); unfold plc; rw [fsF_eq ip (by omega) (fun _ => tch_om.mpr (by first | exact Or.inl (by omega) | exact Or.inr (hb1.mp (by omega))))])) dX5_placeOf_36 (by decide) (fun c_4 => ?_) (fun c_4 => ?_)
          · skip
            refine lv_aload_n hx hb dX5_placeOf_57 rfl (lv_at hl 0 rfl) ?_
            refine lv_iload_n hx hb dX5_placeOf_58 rfl (lv_at hl 2 rfl) ?_
            refine lv_aload_n hx hb dX5_placeOf_59 rfl (lv_at hl 0 rfl) ?_
            refine va_get (D := D) (ci := 5) (v := .ref m1) (C := RX5) (T := TX5) (N := 17) hx hb hts nX5_placeOf_X5 hown hK hP 0 rfl rfl 0 (by decide) (hts _ kX5_placeOf_7) (fun _ h9 => h9) rfl dX5_placeOf_60 ?_
            refine r_iconst hx hb dX5_placeOf_63 ?_
            refine r_ialdV (v := ((ac : Nat) : Int)) hx hb hK hP 1 0 rfl rfl (2) (rfl) (by decide) (by decide) (rfl) dX5_placeOf_64 ?_
            refine callVO (n := 2) (As := [.int (iI ((k : Nat) : Int)), .int (iI ((ac : Nat) : Int))]) (rest := []) (wc := [(hm, .inr (5, [.ref m1, .ref m2, .ref m3, .int (iI ((pa : Nat) : Int)), .int (iI ((pb : Nat) : Int)), .ref m4, .int (iI ((cp : Nat) : Int)), .ref m5, .int (iI ((ty : Nat) : Int)), .ref m6, .int (iI ((nx : Nat) : Int)), .int (iI (fi)), .int (iI (se)), .int (iI ((le : Nat) : Int)), .ref m7, .int (iI (bp)), .ref m8])), (m1, .inl (cI, 516, .inl (rI (sF cn en ac cu co au er ki bs))))]) S (m_ahead l D cI cB cZ cO hm m1 m2 m3 m4 m5 m6 m7 m8 pa pb cp ty nx fi se le bp cn en ac cu co au er ki bs k ac (by first | assumption | (first | omega | (have hkc : k < cn := (by omega); unfold plc; rw [fsF_eq ip (by omega) (fun _ => tch_om.mpr (by first | exact Or.inl (by omega) | exact Or.inr (hb1.mp (by omega))))]))) (by first | assumption | (first | omega | (have hkc : k < cn := (by omega); unfold plc; rw [fsF_eq ip (by omega) (fun _ => tch_om.mpr (by first | exact Or.inl (by omega) | exact Or.inr (hb1.mp (by omega))))]))) (by first | assumption | (first | omega | (have hkc : k < cn := (by omega); unfold plc; rw [fsF_eq ip (by omega) (fun _ => tch_om.mpr (by first | exact Or.inl (by omega) | exact Or.inr (hb1.mp (by omega))))]))) (by first | assumption | (first | omega | (have hkc : k < cn := (by omega); unfold plc; rw [fsF_eq ip (by omega) (fun _ => tch_om.mpr (by first | exact Or.inl (by omega) | exact Or.inr (hb1.mp (by omega))))]))) (by first | assumption | (first | omega | (have hkc : k < cn := (by omega); unfold plc; rw [fsF_eq ip (by omega) (fun _ => tch_om.mpr (by first | exact Or.inl (by omega) | exact Or.inr (hb1.mp (by omega))))])))) gX5_placeOf_X5_ahead rfl ⟨rfl, rfl⟩ (by decide +kernel) ⟨Nat.le_of_ble_eq_true rfl, Nat.le_of_ble_eq_true rfl⟩ hE hP [0, 1] rfl 5 0 rfl rfl rfl hl.1 rfl (Nat.le_of_ble_eq_true rfl) dX5_placeOf_65 ⟨Nat.le_of_ble_eq_true rfl, Nat.le_of_ble_eq_true rfl⟩ ?_
            exact r_iretO hx hb hr hlocks (by first | omega | (have hkc : k < cn := (by omega); unfold plc; rw [fsF_eq ip (by omega) (fun _ => tch_om.mpr (by first | exact Or.inl (by omega) | exact Or.inr (hb1.mp (by omega))))])) dX5_placeOf_68
          · skip
            refine lv_aload_n hx hb dX5_placeOf_39 rfl (lv_at hl 0 rfl) ?_
            refine va_get (D := D) (ci := 5) (v := .ref m1) (C := RX5) (T := TX5) (N := 17) hx hb hts nX5_placeOf_X5 hown hK hP 0 rfl rfl 0 (by decide) (hts _ kX5_placeOf_7) (fun _ h9 => h9) rfl dX5_placeOf_40 ?_
            refine r_sipush hx hb dX5_placeOf_43 (by decide) ?_
            refine lv_iload_n hx hb dX5_placeOf_46 rfl (lv_at hl 2 rfl) ?_
            refine r_iadd (v := ((324 + k : Nat) : Int)) hx hb (rfl) dX5_placeOf_47 ?_
            refine r_ialdV (v := ((er k : Nat) : Int)) hx hb hK hP 1 0 rfl rfl (324 + k) (rfl) (by first | omega | (have hkc : k < cn := (by omega); unfold plc; rw [fsF_eq ip (by omega) (fun _ => tch_om.mpr (by first | exact Or.inl (by omega) | exact Or.inr (hb1.mp (by omega))))])) (by decide) (sF_er (by first | omega | (have hkc : k < cn := (by omega); unfold plc; rw [fsF_eq ip (by omega) (fun _ => tch_om.mpr (by first | exact Or.inl (by omega) | exact Or.inr (hb1.mp (by omega))))]))) dX5_placeOf_48 ?_
            refine lv_iload_n hx hb dX5_placeOf_49 rfl (lv_at hl 1 rfl) ?_
            refine r_ishr hx hb (er k) (e1) (rfl) (rfl) (by first | omega | (have hkc : k < cn := (by omega); unfold plc; rw [fsF_eq ip (by omega) (fun _ => tch_om.mpr (by first | exact Or.inl (by omega) | exact Or.inr (hb1.mp (by omega))))])) (by first | omega | (have hkc : k < cn := (by omega); unfold plc; rw [fsF_eq ip (by omega) (fun _ => tch_om.mpr (by first | exact Or.inl (by omega) | exact Or.inr (hb1.mp (by omega))))])) dX5_placeOf_50 ?_
            refine r_iconst hx hb dX5_placeOf_51 ?_
            refine r_iand hx hb ((er k) >>> e1) (1) (rfl) (rfl) dX5_placeOf_52 ?_
            refine r_iconst hx hb dX5_placeOf_53 ?_
            refine r_icmp_ne (tgt := 69) hx hb (by first | omega | (have hkc : k < cn := (by omega); unfold plc; rw [fsF_eq ip (by omega) (fun _ => tch_om.mpr (by first | exact Or.inl (by omega) | exact Or.inr (hb1.mp (by omega))))])) (⟨by decide, by decide⟩) dX5_placeOf_54 (by decide) (fun c_5 => ?_) (fun c_5 => ?_)
            · skip
              refine lv_iinc (v := iI ((k + 1 : Nat) : Int)) (lv' := [(2, .int (iI ((k + 1 : Nat) : Int))), (0, .ref hm), (1, .int (iI ((e1 : Nat) : Int)))]) hx hb dX5_placeOf_69 hl (k := 2) rfl ((iI_add _ _).trans (ii (rfl))) (by decide) rfl (fun ls hl => ?_)
              refine lv_goto (tgt := 2) hx hb dX5_placeOf_72 (by decide) ?_
              exact ih_2 (k + 1) (by first | omega | (have hkc : k < cn := (by omega); unfold plc; rw [fsF_eq ip (by omega) (fun _ => tch_om.mpr (by first | exact Or.inl (by omega) | exact Or.inr (hb1.mp (by omega))))])) (by first | assumption | (first | omega | (have hkc : k < cn := (by omega); unfold plc; rw [fsF_eq ip (by omega) (fun _ => tch_om.mpr (by first | exact Or.inl (by omega) | exact Or.inr (hb1.mp (by omega))))]))) (by intro j hj; rcases Nat.lt_or_eq_of_le (Nat.le_of_lt_succ hj) with q | q; exact ip j q; (rw [q]; intro h9; rcases tch_om.mp h9 with h8 | h8; (have h7 := hkek (by omega) h8; omega); (have h7 := hb1.mpr h8; omega))) ls (lv_sub hl [1, 2, 0] rfl)
            · skip
              refine lv_aload_n hx hb dX5_placeOf_57 rfl (lv_at hl 0 rfl) ?_
              refine lv_iload_n hx hb dX5_placeOf_58 rfl (lv_at hl 2 rfl) ?_
              refine lv_aload_n hx hb dX5_placeOf_59 rfl (lv_at hl 0 rfl) ?_
              refine va_get (D := D) (ci := 5) (v := .ref m1) (C := RX5) (T := TX5) (N := 17) hx hb hts nX5_placeOf_X5 hown hK hP 0 rfl rfl 0 (by decide) (hts _ kX5_placeOf_7) (fun _ h9 => h9) rfl dX5_placeOf_60 ?_
              refine r_iconst hx hb dX5_placeOf_63 ?_
              refine r_ialdV (v := ((ac : Nat) : Int)) hx hb hK hP 1 0 rfl rfl (2) (rfl) (by decide) (by decide) (rfl) dX5_placeOf_64 ?_
              refine callVO (n := 2) (As := [.int (iI ((k : Nat) : Int)), .int (iI ((ac : Nat) : Int))]) (rest := []) (wc := [(hm, .inr (5, [.ref m1, .ref m2, .ref m3, .int (iI ((pa : Nat) : Int)), .int (iI ((pb : Nat) : Int)), .ref m4, .int (iI ((cp : Nat) : Int)), .ref m5, .int (iI ((ty : Nat) : Int)), .ref m6, .int (iI ((nx : Nat) : Int)), .int (iI (fi)), .int (iI (se)), .int (iI ((le : Nat) : Int)), .ref m7, .int (iI (bp)), .ref m8])), (m1, .inl (cI, 516, .inl (rI (sF cn en ac cu co au er ki bs))))]) S (m_ahead l D cI cB cZ cO hm m1 m2 m3 m4 m5 m6 m7 m8 pa pb cp ty nx fi se le bp cn en ac cu co au er ki bs k ac (by first | assumption | (first | omega | (have hkc : k < cn := (by omega); unfold plc; rw [fsF_eq ip (by omega) (fun _ => tch_om.mpr (by first | exact Or.inl (by omega) | exact Or.inr (hb1.mp (by omega))))]))) (by first | assumption | (first | omega | (have hkc : k < cn := (by omega); unfold plc; rw [fsF_eq ip (by omega) (fun _ => tch_om.mpr (by first | exact Or.inl (by omega) | exact Or.inr (hb1.mp (by omega))))]))) (by first | assumption | (first | omega | (have hkc : k < cn := (by omega); unfold plc; rw [fsF_eq ip (by omega) (fun _ => tch_om.mpr (by first | exact Or.inl (by omega) | exact Or.inr (hb1.mp (by omega))))]))) (by first | assumption | (first | omega | (have hkc : k < cn := (by omega); unfold plc; rw [fsF_eq ip (by omega) (fun _ => tch_om.mpr (by first | exact Or.inl (by omega) | exact Or.inr (hb1.mp (by omega))))]))) (by first | assumption | (first | omega | (have hkc : k < cn := (by omega); unfold plc; rw [fsF_eq ip (by omega) (fun _ => tch_om.mpr (by first | exact Or.inl (by omega) | exact Or.inr (hb1.mp (by omega))))])))) gX5_placeOf_X5_ahead rfl ⟨rfl, rfl⟩ (by decide +kernel) ⟨Nat.le_of_ble_eq_true rfl, Nat.le_of_ble_eq_true rfl⟩ hE hP [0, 1] rfl 5 0 rfl rfl rfl hl.1 rfl (Nat.le_of_ble_eq_true rfl) dX5_placeOf_65 ⟨Nat.le_of_ble_eq_true rfl, Nat.le_of_ble_eq_true rfl⟩ ?_
              exact r_iretO hx hb hr hlocks (by first | omega | (have hkc : k < cn := (by omega); unfold plc; rw [fsF_eq ip (by omega) (fun _ => tch_om.mpr (by first | exact Or.inl (by omega) | exact Or.inr (hb1.mp (by omega))))])) dX5_placeOf_68
  exact loop_2 ((cn - 0) + 1) 0 (by first | omega | (have hkc : k < cn := (by omega); unfold plc; rw [fsF_eq ip (by omega) (fun _ => tch_om.mpr (by first | exact Or.inl (by omega) | exact Or.inr (hb1.mp (by omega))))])) (by first | assumption | (first | omega | (have hkc : k < cn := (by omega); unfold plc; rw [fsF_eq ip (by omega) (fun _ => tch_om.mpr (by first | exact Or.inl (by omega) | exact Or.inr (hb1.mp (by omega))))]))) (by intro j hj; omega) ls (lv_sub hl [1, 2, 0] rfl)

theorem kX5_priceOf_7 : Cond.fieldLink RX5 7 "PricedUndoModel" "s" "[I" ∈ wsX5_priceOf := by decide +kernel
theorem nX5_priceOf_X5 : ∀ w ∈ u_ws RX5 TX5 17, w ∈ wsX5_priceOf := by decide +kernel
theorem kX5_priceOf_20 : Cond.fieldLink RX5 20 "PricedUndoModel" "priceByAge" "I" ∈ wsX5_priceOf := by decide +kernel
theorem kX5_priceOf_24 : Cond.fieldLink RX5 24 "PricedUndoModel" "priceByPlace" "I" ∈ wsX5_priceOf := by decide +kernel
set_option maxHeartbeats 4000000 in
set_option maxRecDepth 100000 in
theorem m_priceOf (l : Launch) (D : va_G) (cI cB cZ cO : ClassId) (hm : Nat) (m1 : Nat) (m2 : Nat) (m3 : Nat) (m4 : Nat) (m5 : Nat) (m6 : Nat) (m7 : Nat) (m8 : Nat) (pa : Nat) (pb : Nat) (cp : Nat) (ty : Nat) (nx : Nat) (fi : Int) (se : Int) (le : Nat) (bp : Int) (cn : Nat) (en : Nat) (ac : Nat) (cu : Nat) (co : Nat → Nat) (au : Nat → Int) (er : Nat → Nat) (ki : Nat → Nat) (bs : Nat → Int) (e1 : Nat) (hcn : cn ≤ 160) (hac : ac < 65536) (hau : ∀ k, -1 ≤ au k ∧ au k < 16) (her : ∀ k, er k < 65536) (hke : ∀ e k : Nat, k < cn → au k = (e : Int) → ki e = 0) (hex : ∀ e, e < en → ∃ k, k < cn ∧ tch (omF au) er e k = true) (hen : en ≤ 16) (hki : ∀ k, ki k ≤ 1) (he1 : e1 < en) (hcu : cu ≤ 60) : Met l yX5_priceOf wsX5_priceOf ({ frames := 3, cells := 0, slots := 0, locals := 69 }) (va_Pc [.ref hm, .int (iI ((e1 : Nat) : Int))] (RO D cI cB cZ cO [(hm, .inr (5, [.ref m1, .ref m2, .ref m3, .int (iI ((pa : Nat) : Int)), .int (iI ((pb : Nat) : Int)), .ref m4, .int (iI ((cp : Nat) : Int)), .ref m5, .int (iI ((ty : Nat) : Int)), .ref m6, .int (iI ((nx : Nat) : Int)), .int (iI (fi)), .int (iI (se)), .int (iI ((le : Nat) : Int)), .ref m7, .int (iI (bp)), .ref m8])), (m1, .inl (cI, 516, .inl (rI (sF cn en ac cu co au er ki bs))))])) (QO ((prc (omF au) er cn ac cu pa pb e1 : Nat) : Int)) 0 0 (fun _ => False) := by
  refine startO (cc := cX5_priceOf) (maxL := 3) (ret := (some .int)) (by decide) rfl (Nat.le_of_ble_eq_true rfl) ?_
  intro p e s m below meth c S hr hlocks hE hP ls hl
  have hx := S.1
  have hb := S.2.1
  have hown := S.2.2.2.1
  have hts := S.2.2.2.2
  have hK := hE.1
  have hl : lv_has ls 3 [(0, .ref hm), (1, .int (iI ((e1 : Nat) : Int)))] := hl
  have hpl : plc (omF au) er cn ac e1 ≤ 160 := Nat.le_trans (cnt_le _ _) (Nat.le_trans (fsF_le _ _) hcn)
  have hsh := Nat.shiftRight_le ac (e1 + 1)
  refine lv_aload_n hx hb dX5_priceOf_0 rfl (lv_at hl 0 rfl) ?_
  refine lv_iload_n hx hb dX5_priceOf_1 rfl (lv_at hl 1 rfl) ?_
  refine callVO (n := 1) (As := [.int (iI ((e1 : Nat) : Int))]) (rest := []) (wc := [(hm, .inr (5, [.ref m1, .ref m2, .ref m3, .int (iI ((pa : Nat) : Int)), .int (iI ((pb : Nat) : Int)), .ref m4, .int (iI ((cp : Nat) : Int)), .ref m5, .int (iI ((ty : Nat) : Int)), .ref m6, .int (iI ((nx : Nat) : Int)), .int (iI (fi)), .int (iI (se)), .int (iI ((le : Nat) : Int)), .ref m7, .int (iI (bp)), .ref m8])), (m1, .inl (cI, 516, .inl (rI (sF cn en ac cu co au er ki bs))))]) S (m_placeOf l D cI cB cZ cO hm m1 m2 m3 m4 m5 m6 m7 m8 pa pb cp ty nx fi se le bp cn en ac cu co au er ki bs e1 (by first | assumption | (first | omega | (unfold prc; rw [show ((plc (omF au) er cn ac e1 : Int) - (cu : Int)).natAbs = (((plc (omF au) er cn ac e1 : Nat) : Int) - ((cu : Nat) : Int)).toNat by omega]) | (unfold prc; rw [show ((plc (omF au) er cn ac e1 : Int) - (cu : Int)).natAbs = (-(((plc (omF au) er cn ac e1 : Nat) : Int) - ((cu : Nat) : Int))).toNat by omega]))) (by first | assumption | (first | omega | (unfold prc; rw [show ((plc (omF au) er cn ac e1 : Int) - (cu : Int)).natAbs = (((plc (omF au) er cn ac e1 : Nat) : Int) - ((cu : Nat) : Int)).toNat by omega]) | (unfold prc; rw [show ((plc (omF au) er cn ac e1 : Int) - (cu : Int)).natAbs = (-(((plc (omF au) er cn ac e1 : Nat) : Int) - ((cu : Nat) : Int))).toNat by omega]))) (by first | assumption | (first | omega | (unfold prc; rw [show ((plc (omF au) er cn ac e1 : Int) - (cu : Int)).natAbs = (((plc (omF au) er cn ac e1 : Nat) : Int) - ((cu : Nat) : Int)).toNat by omega]) | (unfold prc; rw [show ((plc (omF au) er cn ac e1 : Int) - (cu : Int)).natAbs = (-(((plc (omF au) er cn ac e1 : Nat) : Int) - ((cu : Nat) : Int))).toNat by omega]))) (by first | assumption | (first | omega | (unfold prc; rw [show ((plc (omF au) er cn ac e1 : Int) - (cu : Int)).natAbs = (((plc (omF au) er cn ac e1 : Nat) : Int) - ((cu : Nat) : Int)).toNat by omega]) | (unfold prc; rw [show ((plc (omF au) er cn ac e1 : Int) - (cu : Int)).natAbs = (-(((plc (omF au) er cn ac e1 : Nat) : Int) - ((cu : Nat) : Int))).toNat by omega]))) (by first | assumption | (first | omega | (unfold prc; rw [show ((plc (omF au) er cn ac e1 : Int) - (cu : Int)).natAbs = (((plc (omF au) er cn ac e1 : Nat) : Int) - ((cu : Nat) : Int)).toNat by omega]) | (unfold prc; rw [show ((plc (omF au) er cn ac e1 : Int) - (cu : Int)).natAbs = (-(((plc (omF au) er cn ac e1 : Nat) : Int) - ((cu : Nat) : Int))).toNat by omega]))) (by first | assumption | (first | omega | (unfold prc; rw [show ((plc (omF au) er cn ac e1 : Int) - (cu : Int)).natAbs = (((plc (omF au) er cn ac e1 : Nat) : Int) - ((cu : Nat) : Int)).toNat by omega]) | (unfold prc; rw [show ((plc (omF au) er cn ac e1 : Int) - (cu : Int)).natAbs = (-(((plc (omF au) er cn ac e1 : Nat) : Int) - ((cu : Nat) : Int))).toNat by omega]))) (by first | assumption | (first | omega | (unfold prc; rw [show ((plc (omF au) er cn ac e1 : Int) - (cu : Int)).natAbs = (((plc (omF au) er cn ac e1 : Nat) : Int) - ((cu : Nat) : Int)).toNat by omega]) | (unfold prc; rw [show ((plc (omF au) er cn ac e1 : Int) - (cu : Int)).natAbs = (-(((plc (omF au) er cn ac e1 : Nat) : Int) - ((cu : Nat) : Int))).toNat by omega]))) (by first | assumption | (first | omega | (unfold prc; rw [show ((plc (omF au) er cn ac e1 : Int) - (cu : Int)).natAbs = (((plc (omF au) er cn ac e1 : Nat) : Int) - ((cu : Nat) : Int)).toNat by omega]) | (unfold prc; rw [show ((plc (omF au) er cn ac e1 : Int) - (cu : Int)).natAbs = (-(((plc (omF au) er cn ac e1 : Nat) : Int) - ((cu : Nat) : Int))).toNat by omega]))) (by first | assumption | (first | omega | (unfold prc; rw [show ((plc (omF au) er cn ac e1 : Int) - (cu : Int)).natAbs = (((plc (omF au) er cn ac e1 : Nat) : Int) - ((cu : Nat) : Int)).toNat by omega]) | (unfold prc; rw [show ((plc (omF au) er cn ac e1 : Int) - (cu : Int)).natAbs = (-(((plc (omF au) er cn ac e1 : Nat) : Int) - ((cu : Nat) : Int))).toNat by omega])))) gX5_priceOf_X5_placeOf rfl ⟨rfl, rfl⟩ (by decide +kernel) ⟨Nat.le_of_ble_eq_true rfl, Nat.le_of_ble_eq_true rfl⟩ hE hP [0, 1] rfl 5 0 rfl rfl rfl hl.1 rfl (Nat.le_of_ble_eq_true rfl) dX5_priceOf_2 ⟨Nat.le_of_ble_eq_true rfl, Nat.le_of_ble_eq_true rfl⟩ ?_
  refine lv_aload_n hx hb dX5_priceOf_5 rfl (lv_at hl 0 rfl) ?_
  refine va_get (D := D) (ci := 5) (v := .ref m1) (C := RX5) (T := TX5) (N := 17) hx hb hts nX5_priceOf_X5 hown hK hP 0 rfl rfl 0 (by decide) (hts _ kX5_priceOf_7) (fun _ h9 => h9) rfl dX5_priceOf_6 ?_
  refine r_iconst hx hb dX5_priceOf_9 ?_
  refine r_ialdV (v := ((cu : Nat) : Int)) hx hb hK hP 1 0 rfl rfl (3) (rfl) (by decide) (by decide) (rfl) dX5_priceOf_10 ?_
  refine r_isub (v := (((plc (omF au) er cn ac e1 : Nat) : Int) - ((cu : Nat) : Int))) hx hb (rfl) dX5_priceOf_11 ?_
  refine lv_istore_n (lv' := [(2, .int (iI (((plc (omF au) er cn ac e1 : Nat) : Int) - ((cu : Nat) : Int)))), (0, .ref hm), (1, .int (iI ((e1 : Nat) : Int)))]) hx hb dX5_priceOf_12 rfl hl (by decide) rfl (fun ls hl => ?_)
  refine lv_iload_n hx hb dX5_priceOf_13 rfl (lv_at hl 0 rfl) ?_
  refine r_if_ge (tgt := 22) hx hb (by first | omega | (unfold prc; rw [show ((plc (omF au) er cn ac e1 : Int) - (cu : Int)).natAbs = (((plc (omF au) er cn ac e1 : Nat) : Int) - ((cu : Nat) : Int)).toNat by omega]) | (unfold prc; rw [show ((plc (omF au) er cn ac e1 : Int) - (cu : Int)).natAbs = (-(((plc (omF au) er cn ac e1 : Nat) : Int) - ((cu : Nat) : Int))).toNat by omega])) dX5_priceOf_14 (by decide) (fun c_1 => ?_) (fun c_1 => ?_)
  · skip
    refine lv_iload_n hx hb dX5_priceOf_22 rfl (lv_at hl 0 rfl) ?_
    refine lv_istore_n (lv' := [(2, .int (iI (((plc (omF au) er cn ac e1 : Nat) : Int) - ((cu : Nat) : Int)))), (0, .ref hm), (1, .int (iI ((e1 : Nat) : Int)))]) hx hb dX5_priceOf_23 rfl hl (by decide) rfl (fun ls hl => ?_)
    refine r_iconst hx hb dX5_priceOf_24 ?_
    refine lv_aload_n hx hb dX5_priceOf_25 rfl (lv_at hl 1 rfl) ?_
    refine va_get (D := D) (ci := 5) (v := .int (iI ((pa : Nat) : Int))) (C := RX5) (T := TX5) (N := 17) hx hb hts nX5_priceOf_X5 hown hK hP 0 rfl rfl 3 (by decide) (hts _ kX5_priceOf_20) (fun _ h9 => h9) rfl dX5_priceOf_26 ?_
    refine lv_aload_n hx hb dX5_priceOf_29 rfl (lv_at hl 1 rfl) ?_
    refine va_get (D := D) (ci := 5) (v := .ref m1) (C := RX5) (T := TX5) (N := 17) hx hb hts nX5_priceOf_X5 hown hK hP 0 rfl rfl 0 (by decide) (hts _ kX5_priceOf_7) (fun _ h9 => h9) rfl dX5_priceOf_30 ?_
    refine r_iconst hx hb dX5_priceOf_33 ?_
    refine r_ialdV (v := ((ac : Nat) : Int)) hx hb hK hP 1 0 rfl rfl (2) (rfl) (by decide) (by decide) (rfl) dX5_priceOf_34 ?_
    refine lv_iload_n hx hb dX5_priceOf_35 rfl (lv_at hl 2 rfl) ?_
    refine r_iconst hx hb dX5_priceOf_36 ?_
    refine r_iadd (v := ((e1 + 1 : Nat) : Int)) hx hb (rfl) dX5_priceOf_37 ?_
    refine r_ishr hx hb (ac) (e1 + 1) (rfl) (rfl) (by first | omega | (unfold prc; rw [show ((plc (omF au) er cn ac e1 : Int) - (cu : Int)).natAbs = (((plc (omF au) er cn ac e1 : Nat) : Int) - ((cu : Nat) : Int)).toNat by omega]) | (unfold prc; rw [show ((plc (omF au) er cn ac e1 : Int) - (cu : Int)).natAbs = (-(((plc (omF au) er cn ac e1 : Nat) : Int) - ((cu : Nat) : Int))).toNat by omega])) (by first | omega | (unfold prc; rw [show ((plc (omF au) er cn ac e1 : Int) - (cu : Int)).natAbs = (((plc (omF au) er cn ac e1 : Nat) : Int) - ((cu : Nat) : Int)).toNat by omega]) | (unfold prc; rw [show ((plc (omF au) er cn ac e1 : Int) - (cu : Int)).natAbs = (-(((plc (omF au) er cn ac e1 : Nat) : Int) - ((cu : Nat) : Int))).toNat by omega])) dX5_priceOf_38 ?_
    refine callSO (n := 1) (As := [.int (iI ((ac >>> (e1 + 1) : Nat) : Int))]) (rest := [.int (iI ((pa : Nat) : Int)), .int (iI 1)]) (wc := []) S (m_bits l D cI cB cZ cO (ac >>> (e1 + 1)) (by first | assumption | (first | omega | (unfold prc; rw [show ((plc (omF au) er cn ac e1 : Int) - (cu : Int)).natAbs = (((plc (omF au) er cn ac e1 : Nat) : Int) - ((cu : Nat) : Int)).toNat by omega]) | (unfold prc; rw [show ((plc (omF au) er cn ac e1 : Int) - (cu : Int)).natAbs = (-(((plc (omF au) er cn ac e1 : Nat) : Int) - ((cu : Nat) : Int))).toNat by omega])))) gX5_priceOf_X5_bits rfl ⟨rfl, rfl⟩ (by decide +kernel) ⟨Nat.le_of_ble_eq_true rfl, Nat.le_of_ble_eq_true rfl⟩ hE hP [] rfl rfl hl.1 rfl (Nat.le_of_ble_eq_true rfl) dX5_priceOf_39 ⟨Nat.le_of_ble_eq_true rfl, Nat.le_of_ble_eq_true rfl⟩ ?_
    refine r_imul (v := ((pa * (popc (ac >>> (e1 + 1))) : Nat) : Int)) hx hb (rfl) dX5_priceOf_42 ?_
    refine r_iadd (v := ((1 + (pa * (popc (ac >>> (e1 + 1)))) : Nat) : Int)) hx hb (rfl) dX5_priceOf_43 ?_
    refine lv_aload_n hx hb dX5_priceOf_44 rfl (lv_at hl 1 rfl) ?_
    refine va_get (D := D) (ci := 5) (v := .int (iI ((pb : Nat) : Int))) (C := RX5) (T := TX5) (N := 17) hx hb hts nX5_priceOf_X5 hown hK hP 0 rfl rfl 4 (by decide) (hts _ kX5_priceOf_24) (fun _ h9 => h9) rfl dX5_priceOf_45 ?_
    refine lv_iload_n hx hb dX5_priceOf_48 rfl (lv_at hl 0 rfl) ?_
    refine r_iconst hx hb dX5_priceOf_49 ?_
    refine r_idiv hx hb ((((plc (omF au) er cn ac e1 : Nat) : Int) - ((cu : Nat) : Int)).toNat) (4) (by first | omega | (unfold prc; rw [show ((plc (omF au) er cn ac e1 : Int) - (cu : Int)).natAbs = (((plc (omF au) er cn ac e1 : Nat) : Int) - ((cu : Nat) : Int)).toNat by omega]) | (unfold prc; rw [show ((plc (omF au) er cn ac e1 : Int) - (cu : Int)).natAbs = (-(((plc (omF au) er cn ac e1 : Nat) : Int) - ((cu : Nat) : Int))).toNat by omega])) (rfl) (by first | omega | (unfold prc; rw [show ((plc (omF au) er cn ac e1 : Int) - (cu : Int)).natAbs = (((plc (omF au) er cn ac e1 : Nat) : Int) - ((cu : Nat) : Int)).toNat by omega]) | (unfold prc; rw [show ((plc (omF au) er cn ac e1 : Int) - (cu : Int)).natAbs = (-(((plc (omF au) er cn ac e1 : Nat) : Int) - ((cu : Nat) : Int))).toNat by omega])) (by first | omega | (unfold prc; rw [show ((plc (omF au) er cn ac e1 : Int) - (cu : Int)).natAbs = (((plc (omF au) er cn ac e1 : Nat) : Int) - ((cu : Nat) : Int)).toNat by omega]) | (unfold prc; rw [show ((plc (omF au) er cn ac e1 : Int) - (cu : Int)).natAbs = (-(((plc (omF au) er cn ac e1 : Nat) : Int) - ((cu : Nat) : Int))).toNat by omega])) (by first | omega | (unfold prc; rw [show ((plc (omF au) er cn ac e1 : Int) - (cu : Int)).natAbs = (((plc (omF au) er cn ac e1 : Nat) : Int) - ((cu : Nat) : Int)).toNat by omega]) | (unfold prc; rw [show ((plc (omF au) er cn ac e1 : Int) - (cu : Int)).natAbs = (-(((plc (omF au) er cn ac e1 : Nat) : Int) - ((cu : Nat) : Int))).toNat by omega])) dX5_priceOf_50 ?_
    refine r_imul (v := ((pb * (((((plc (omF au) er cn ac e1 : Nat) : Int) - ((cu : Nat) : Int)).toNat) / 4) : Nat) : Int)) hx hb (rfl) dX5_priceOf_51 ?_
    refine r_iadd (v := (((1 + (pa * (popc (ac >>> (e1 + 1))))) + (pb * (((((plc (omF au) er cn ac e1 : Nat) : Int) - ((cu : Nat) : Int)).toNat) / 4)) : Nat) : Int)) hx hb (rfl) dX5_priceOf_52 ?_
    exact r_iretO hx hb hr hlocks (by first | omega | (unfold prc; rw [show ((plc (omF au) er cn ac e1 : Int) - (cu : Int)).natAbs = (((plc (omF au) er cn ac e1 : Nat) : Int) - ((cu : Nat) : Int)).toNat by omega]) | (unfold prc; rw [show ((plc (omF au) er cn ac e1 : Int) - (cu : Int)).natAbs = (-(((plc (omF au) er cn ac e1 : Nat) : Int) - ((cu : Nat) : Int))).toNat by omega])) dX5_priceOf_53
  · skip
    refine lv_iload_n hx hb dX5_priceOf_17 rfl (lv_at hl 0 rfl) ?_
    refine r_ineg (v := (-(((plc (omF au) er cn ac e1 : Nat) : Int) - ((cu : Nat) : Int)))) hx hb (rfl) dX5_priceOf_18 ?_
    refine lv_goto (tgt := 23) hx hb dX5_priceOf_19 (by decide) ?_
    refine lv_istore_n (lv' := [(2, .int (iI (-(((plc (omF au) er cn ac e1 : Nat) : Int) - ((cu : Nat) : Int))))), (0, .ref hm), (1, .int (iI ((e1 : Nat) : Int)))]) hx hb dX5_priceOf_23 rfl hl (by decide) rfl (fun ls hl => ?_)
    refine r_iconst hx hb dX5_priceOf_24 ?_
    refine lv_aload_n hx hb dX5_priceOf_25 rfl (lv_at hl 1 rfl) ?_
    refine va_get (D := D) (ci := 5) (v := .int (iI ((pa : Nat) : Int))) (C := RX5) (T := TX5) (N := 17) hx hb hts nX5_priceOf_X5 hown hK hP 0 rfl rfl 3 (by decide) (hts _ kX5_priceOf_20) (fun _ h9 => h9) rfl dX5_priceOf_26 ?_
    refine lv_aload_n hx hb dX5_priceOf_29 rfl (lv_at hl 1 rfl) ?_
    refine va_get (D := D) (ci := 5) (v := .ref m1) (C := RX5) (T := TX5) (N := 17) hx hb hts nX5_priceOf_X5 hown hK hP 0 rfl rfl 0 (by decide) (hts _ kX5_priceOf_7) (fun _ h9 => h9) rfl dX5_priceOf_30 ?_
    refine r_iconst hx hb dX5_priceOf_33 ?_
    refine r_ialdV (v := ((ac : Nat) : Int)) hx hb hK hP 1 0 rfl rfl (2) (rfl) (by decide) (by decide) (rfl) dX5_priceOf_34 ?_
    refine lv_iload_n hx hb dX5_priceOf_35 rfl (lv_at hl 2 rfl) ?_
    refine r_iconst hx hb dX5_priceOf_36 ?_
    refine r_iadd (v := ((e1 + 1 : Nat) : Int)) hx hb (rfl) dX5_priceOf_37 ?_
    refine r_ishr hx hb (ac) (e1 + 1) (rfl) (rfl) (by first | omega | (unfold prc; rw [show ((plc (omF au) er cn ac e1 : Int) - (cu : Int)).natAbs = (((plc (omF au) er cn ac e1 : Nat) : Int) - ((cu : Nat) : Int)).toNat by omega]) | (unfold prc; rw [show ((plc (omF au) er cn ac e1 : Int) - (cu : Int)).natAbs = (-(((plc (omF au) er cn ac e1 : Nat) : Int) - ((cu : Nat) : Int))).toNat by omega])) (by first | omega | (unfold prc; rw [show ((plc (omF au) er cn ac e1 : Int) - (cu : Int)).natAbs = (((plc (omF au) er cn ac e1 : Nat) : Int) - ((cu : Nat) : Int)).toNat by omega]) | (unfold prc; rw [show ((plc (omF au) er cn ac e1 : Int) - (cu : Int)).natAbs = (-(((plc (omF au) er cn ac e1 : Nat) : Int) - ((cu : Nat) : Int))).toNat by omega])) dX5_priceOf_38 ?_
    refine callSO (n := 1) (As := [.int (iI ((ac >>> (e1 + 1) : Nat) : Int))]) (rest := [.int (iI ((pa : Nat) : Int)), .int (iI 1)]) (wc := []) S (m_bits l D cI cB cZ cO (ac >>> (e1 + 1)) (by first | assumption | (first | omega | (unfold prc; rw [show ((plc (omF au) er cn ac e1 : Int) - (cu : Int)).natAbs = (((plc (omF au) er cn ac e1 : Nat) : Int) - ((cu : Nat) : Int)).toNat by omega]) | (unfold prc; rw [show ((plc (omF au) er cn ac e1 : Int) - (cu : Int)).natAbs = (-(((plc (omF au) er cn ac e1 : Nat) : Int) - ((cu : Nat) : Int))).toNat by omega])))) gX5_priceOf_X5_bits rfl ⟨rfl, rfl⟩ (by decide +kernel) ⟨Nat.le_of_ble_eq_true rfl, Nat.le_of_ble_eq_true rfl⟩ hE hP [] rfl rfl hl.1 rfl (Nat.le_of_ble_eq_true rfl) dX5_priceOf_39 ⟨Nat.le_of_ble_eq_true rfl, Nat.le_of_ble_eq_true rfl⟩ ?_
    refine r_imul (v := ((pa * (popc (ac >>> (e1 + 1))) : Nat) : Int)) hx hb (rfl) dX5_priceOf_42 ?_
    refine r_iadd (v := ((1 + (pa * (popc (ac >>> (e1 + 1)))) : Nat) : Int)) hx hb (rfl) dX5_priceOf_43 ?_
    refine lv_aload_n hx hb dX5_priceOf_44 rfl (lv_at hl 1 rfl) ?_
    refine va_get (D := D) (ci := 5) (v := .int (iI ((pb : Nat) : Int))) (C := RX5) (T := TX5) (N := 17) hx hb hts nX5_priceOf_X5 hown hK hP 0 rfl rfl 4 (by decide) (hts _ kX5_priceOf_24) (fun _ h9 => h9) rfl dX5_priceOf_45 ?_
    refine lv_iload_n hx hb dX5_priceOf_48 rfl (lv_at hl 0 rfl) ?_
    refine r_iconst hx hb dX5_priceOf_49 ?_
    refine r_idiv hx hb ((-(((plc (omF au) er cn ac e1 : Nat) : Int) - ((cu : Nat) : Int))).toNat) (4) (by first | omega | (unfold prc; rw [show ((plc (omF au) er cn ac e1 : Int) - (cu : Int)).natAbs = (((plc (omF au) er cn ac e1 : Nat) : Int) - ((cu : Nat) : Int)).toNat by omega]) | (unfold prc; rw [show ((plc (omF au) er cn ac e1 : Int) - (cu : Int)).natAbs = (-(((plc (omF au) er cn ac e1 : Nat) : Int) - ((cu : Nat) : Int))).toNat by omega])) (rfl) (by first | omega | (unfold prc; rw [show ((plc (omF au) er cn ac e1 : Int) - (cu : Int)).natAbs = (((plc (omF au) er cn ac e1 : Nat) : Int) - ((cu : Nat) : Int)).toNat by omega]) | (unfold prc; rw [show ((plc (omF au) er cn ac e1 : Int) - (cu : Int)).natAbs = (-(((plc (omF au) er cn ac e1 : Nat) : Int) - ((cu : Nat) : Int))).toNat by omega])) (by first | omega | (unfold prc; rw [show ((plc (omF au) er cn ac e1 : Int) - (cu : Int)).natAbs = (((plc (omF au) er cn ac e1 : Nat) : Int) - ((cu : Nat) : Int)).toNat by omega]) | (unfold prc; rw [show ((plc (omF au) er cn ac e1 : Int) - (cu : Int)).natAbs = (-(((plc (omF au) er cn ac e1 : Nat) : Int) - ((cu : Nat) : Int))).toNat by omega])) (by first | omega | (unfold prc; rw [show ((plc (omF au) er cn ac e1 : Int) - (cu : Int)).natAbs = (((plc (omF au) er cn ac e1 : Nat) : Int) - ((cu : Nat) : Int)).toNat by omega]) | (unfold prc; rw [show ((plc (omF au) er cn ac e1 : Int) - (cu : Int)).natAbs = (-(((plc (omF au) er cn ac e1 : Nat) : Int) - ((cu : Nat) : Int))).toNat by omega])) dX5_priceOf_50 ?_
    refine r_imul (v := ((pb * (((-(((plc (omF au) er cn ac e1 : Nat) : Int) - ((cu : Nat) : Int))).toNat) / 4) : Nat) : Int)) hx hb (rfl) dX5_priceOf_51 ?_
    refine r_iadd (v := (((1 + (pa * (popc (ac >>> (e1 + 1))))) + (pb * (((-(((plc (omF au) er cn ac e1 : Nat) : Int) - ((cu : Nat) : Int))).toNat) / 4)) : Nat) : Int)) hx hb (rfl) dX5_priceOf_52 ?_
    exact r_iretO hx hb hr hlocks (by first | omega | (unfold prc; rw [show ((plc (omF au) er cn ac e1 : Int) - (cu : Int)).natAbs = (((plc (omF au) er cn ac e1 : Nat) : Int) - ((cu : Nat) : Int)).toNat by omega]) | (unfold prc; rw [show ((plc (omF au) er cn ac e1 : Int) - (cu : Int)).natAbs = (-(((plc (omF au) er cn ac e1 : Nat) : Int) - ((cu : Nat) : Int))).toNat by omega])) dX5_priceOf_53

theorem kX5_priceOfAll_7 : Cond.fieldLink RX5 7 "PricedUndoModel" "s" "[I" ∈ wsX5_priceOfAll := by decide +kernel
theorem nX5_priceOfAll_X5 : ∀ w ∈ u_ws RX5 TX5 17, w ∈ wsX5_priceOfAll := by decide +kernel
set_option maxHeartbeats 4000000 in
set_option maxRecDepth 100000 in
theorem m_priceOfAll (l : Launch) (D : va_G) (cI cB cZ cO : ClassId) (hm : Nat) (m1 : Nat) (m2 : Nat) (m3 : Nat) (m4 : Nat) (m5 : Nat) (m6 : Nat) (m7 : Nat) (m8 : Nat) (pa : Nat) (pb : Nat) (cp : Nat) (ty : Nat) (nx : Nat) (fi : Int) (se : Int) (le : Nat) (bp : Int) (cn : Nat) (en : Nat) (ac : Nat) (cu : Nat) (co : Nat → Nat) (au : Nat → Int) (er : Nat → Nat) (ki : Nat → Nat) (bs : Nat → Int) (st1 : Nat) (hcn : cn ≤ 160) (hac : ac < 65536) (hau : ∀ k, -1 ≤ au k ∧ au k < 16) (her : ∀ k, er k < 65536) (hke : ∀ e k : Nat, k < cn → au k = (e : Int) → ki e = 0) (hex : ∀ e, e < en → ∃ k, k < cn ∧ tch (omF au) er e k = true) (hen : en ≤ 16) (hki : ∀ k, ki k ≤ 1) (hcu : cu ≤ 60) (hst : st1 < 65536) : Met l yX5_priceOfAll wsX5_priceOfAll ({ frames := 4, cells := 0, slots := 0, locals := 91 }) (va_Pc [.ref hm, .int (iI ((st1 : Nat) : Int))] (RO D cI cB cZ cO [(hm, .inr (5, [.ref m1, .ref m2, .ref m3, .int (iI ((pa : Nat) : Int)), .int (iI ((pb : Nat) : Int)), .ref m4, .int (iI ((cp : Nat) : Int)), .ref m5, .int (iI ((ty : Nat) : Int)), .ref m6, .int (iI ((nx : Nat) : Int)), .int (iI (fi)), .int (iI (se)), .int (iI ((le : Nat) : Int)), .ref m7, .int (iI (bp)), .ref m8])), (m1, .inl (cI, 516, .inl (rI (sF cn en ac cu co au er ki bs))))])) (QO ((psm (prc (omF au) er cn ac cu pa pb) st1 en : Nat) : Int)) 0 0 (fun _ => False) := by
  refine startO (cc := cX5_priceOfAll) (maxL := 4) (ret := (some .int)) (by decide) rfl (Nat.le_of_ble_eq_true rfl) ?_
  intro p e s m below meth c S hr hlocks hE hP ls hl
  have hx := S.1
  have hb := S.2.1
  have hown := S.2.2.2.1
  have hts := S.2.2.2.2
  have hK := hE.1
  have hl : lv_has ls 4 [(0, .ref hm), (1, .int (iI ((st1 : Nat) : Int)))] := hl
  refine r_iconst hx hb dX5_priceOfAll_0 ?_
  refine lv_istore_n (lv' := [(2, .int (iI 0)), (0, .ref hm), (1, .int (iI ((st1 : Nat) : Int)))]) hx hb dX5_priceOfAll_1 rfl hl (by decide) rfl (fun ls hl => ?_)
  refine r_iconst hx hb dX5_priceOfAll_2 ?_
  refine lv_istore_n (lv' := [(3, .int (iI 0)), (2, .int (iI 0)), (0, .ref hm), (1, .int (iI ((st1 : Nat) : Int)))]) hx hb dX5_priceOfAll_3 rfl hl (by decide) rfl (fun ls hl => ?_)
  have loop_4 : ∀ (n_4 : Nat) (k : Nat), (en - k) < n_4 → (k ≤ en) → ∀ (ls : Array Slot), lv_has ls 4 [(0, .ref hm), (1, .int (iI ((st1 : Nat) : Int))), (2, .int (iI ((psm (prc (omF au) er cn ac cu pa pb) st1 k : Nat) : Int))), (3, .int (iI ((k : Nat) : Int)))] → W p l e ({ frames := 4, cells := 0, slots := 0, locals := 91 }) s m ([.ref hm, .int (iI ((st1 : Nat) : Int))] : List Value).toArray below meth c s.heap [] 0 0 (MQ below (QO ((psm (prc (omF au) er cn ac cu pa pb) st1 en : Nat) : Int)) ([.ref hm, .int (iI ((st1 : Nat) : Int))] : List Value).toArray s 0 0 (fun _ => False)) (F0 m 4 ls []) := by
    intro n_4
    induction n_4 with
    | zero => intro k h_meas; exact absurd h_meas (Nat.not_lt_zero _)
    | succ n_4 ih_4 =>
      intro k h_m4 ik ls hl
      have hsl := Nat.shiftRight_le st1 k
      have hsa := @Nat.and_le_left (st1 >>> k) 1
      have hb1 := tb1 st1 k
      have hb0 := tb0 st1 k
      refine lv_iload_n hx hb dX5_priceOfAll_4 rfl (lv_at hl 3 rfl) ?_
      refine lv_aload_n hx hb dX5_priceOfAll_5 rfl (lv_at hl 0 rfl) ?_
      refine va_get (D := D) (ci := 5) (v := .ref m1) (C := RX5) (T := TX5) (N := 17) hx hb hts nX5_priceOfAll_X5 hown hK hP 0 rfl rfl 0 (by decide) (hts _ kX5_priceOfAll_7) (fun _ h9 => h9) rfl dX5_priceOfAll_6 ?_
      refine r_iconst hx hb dX5_priceOfAll_9 ?_
      refine r_ialdV (v := ((en : Nat) : Int)) hx hb hK hP 1 0 rfl rfl (1) (rfl) (by decide) (by decide) (rfl) dX5_priceOfAll_10 ?_
      refine r_icmp_ge (tgt := 41) hx hb (by first | omega | (rw [show k = en by omega])) (by first | omega | (rw [show k = en by omega])) dX5_priceOfAll_11 (by decide) (fun c_1 => ?_) (fun c_1 => ?_)
      · skip
        refine lv_iload_n hx hb dX5_priceOfAll_41 rfl (lv_at hl 2 rfl) ?_
        exact r_iretO hx hb hr hlocks (by first | omega | (rw [show k = en by omega])) dX5_priceOfAll_42
      · skip
        refine lv_iload_n hx hb dX5_priceOfAll_14 rfl (lv_at hl 2 rfl) ?_
        refine lv_iload_n hx hb dX5_priceOfAll_15 rfl (lv_at hl 1 rfl) ?_
        refine lv_iload_n hx hb dX5_priceOfAll_16 rfl (lv_at hl 3 rfl) ?_
        refine r_ishr hx hb (st1) (k) (rfl) (rfl) (by first | omega | (rw [show k = en by omega])) (by first | omega | (rw [show k = en by omega])) dX5_priceOfAll_17 ?_
        refine r_iconst hx hb dX5_priceOfAll_18 ?_
        refine r_iand hx hb (st1 >>> k) (1) (rfl) (rfl) dX5_priceOfAll_19 ?_
        refine r_iconst hx hb dX5_priceOfAll_20 ?_
        refine r_icmp_ne (tgt := 32) hx hb (rg_nat (Nat.le_trans hsa hsl) (by omega)) (⟨by decide, by decide⟩) dX5_priceOfAll_21 (by decide) (fun c_2 => ?_) (fun c_2 => ?_)
        · skip
          refine r_iconst hx hb dX5_priceOfAll_32 ?_
          refine r_iadd (v := (((psm (prc (omF au) er cn ac cu pa pb) st1 k) + 0 : Nat) : Int)) hx hb (rfl) dX5_priceOfAll_33 ?_
          refine lv_istore_n (lv' := [(2, .int (iI (((psm (prc (omF au) er cn ac cu pa pb) st1 k) + 0 : Nat) : Int))), (0, .ref hm), (1, .int (iI ((st1 : Nat) : Int))), (3, .int (iI ((k : Nat) : Int)))]) hx hb dX5_priceOfAll_34 rfl hl (by decide) rfl (fun ls hl => ?_)
          refine lv_iinc (v := iI ((k + 1 : Nat) : Int)) (lv' := [(3, .int (iI ((k + 1 : Nat) : Int))), (2, .int (iI (((psm (prc (omF au) er cn ac cu pa pb) st1 k) + 0 : Nat) : Int))), (0, .ref hm), (1, .int (iI ((st1 : Nat) : Int)))]) hx hb dX5_priceOfAll_35 hl (k := 3) rfl ((iI_add _ _).trans (ii (rfl))) (by decide) rfl (fun ls hl => ?_)
          refine lv_goto (tgt := 4) hx hb dX5_priceOfAll_38 (by decide) ?_
          have hl : lv_has ls 4 [(3, .int (iI ((k + 1 : Nat) : Int))), (2, .int (iI ((psm (prc (omF au) er cn ac cu pa pb) st1 (k + 1) : Nat) : Int))), (0, .ref hm), (1, .int (iI ((st1 : Nat) : Int)))] := lv_chg hl 1 2 rfl (show ((((psm (prc (omF au) er cn ac cu pa pb) st1 k) + 0 : Nat) : Int) : Int) = ((psm (prc (omF au) er cn ac cu pa pb) st1 (k + 1) : Nat) : Int) from by first | (rw [psm_t (hb1.mp (by omega))]) | (rw [psm_f (fun q => by have q1 := hb1.mpr q; omega)]; rfl)) rfl
          exact ih_4 (k + 1) (by first | omega | (rw [show k = en by omega])) (by first | assumption | (first | omega | (rw [show k = en by omega]))) ls (lv_sub hl [2, 3, 1, 0] rfl)
        · skip
          refine lv_aload_n hx hb dX5_priceOfAll_24 rfl (lv_at hl 0 rfl) ?_
          refine lv_iload_n hx hb dX5_priceOfAll_25 rfl (lv_at hl 3 rfl) ?_
          refine callVO (n := 1) (As := [.int (iI ((k : Nat) : Int))]) (rest := [.int (iI ((psm (prc (omF au) er cn ac cu pa pb) st1 k : Nat) : Int))]) (wc := [(hm, .inr (5, [.ref m1, .ref m2, .ref m3, .int (iI ((pa : Nat) : Int)), .int (iI ((pb : Nat) : Int)), .ref m4, .int (iI ((cp : Nat) : Int)), .ref m5, .int (iI ((ty : Nat) : Int)), .ref m6, .int (iI ((nx : Nat) : Int)), .int (iI (fi)), .int (iI (se)), .int (iI ((le : Nat) : Int)), .ref m7, .int (iI (bp)), .ref m8])), (m1, .inl (cI, 516, .inl (rI (sF cn en ac cu co au er ki bs))))]) S (m_priceOf l D cI cB cZ cO hm m1 m2 m3 m4 m5 m6 m7 m8 pa pb cp ty nx fi se le bp cn en ac cu co au er ki bs k (by first | assumption | (first | omega | (rw [show k = en by omega]))) (by first | assumption | (first | omega | (rw [show k = en by omega]))) (by first | assumption | (first | omega | (rw [show k = en by omega]))) (by first | assumption | (first | omega | (rw [show k = en by omega]))) (by first | assumption | (first | omega | (rw [show k = en by omega]))) (by first | assumption | (first | omega | (rw [show k = en by omega]))) (by first | assumption | (first | omega | (rw [show k = en by omega]))) (by first | assumption | (first | omega | (rw [show k = en by omega]))) (by first | assumption | (first | omega | (rw [show k = en by omega]))) (by first | assumption | (first | omega | (rw [show k = en by omega])))) gX5_priceOfAll_X5_priceOf rfl ⟨rfl, rfl⟩ (by decide +kernel) ⟨Nat.le_of_ble_eq_true rfl, Nat.le_of_ble_eq_true rfl⟩ hE hP [0, 1] rfl 5 0 rfl rfl rfl hl.1 rfl (Nat.le_of_ble_eq_true rfl) dX5_priceOfAll_26 ⟨Nat.le_of_ble_eq_true rfl, Nat.le_of_ble_eq_true rfl⟩ ?_
          refine lv_goto (tgt := 33) hx hb dX5_priceOfAll_29 (by decide) ?_
          refine r_iadd (v := (((psm (prc (omF au) er cn ac cu pa pb) st1 k) + (prc (omF au) er cn ac cu pa pb k) : Nat) : Int)) hx hb (rfl) dX5_priceOfAll_33 ?_
          refine lv_istore_n (lv' := [(2, .int (iI (((psm (prc (omF au) er cn ac cu pa pb) st1 k) + (prc (omF au) er cn ac cu pa pb k) : Nat) : Int))), (0, .ref hm), (1, .int (iI ((st1 : Nat) : Int))), (3, .int (iI ((k : Nat) : Int)))]) hx hb dX5_priceOfAll_34 rfl hl (by decide) rfl (fun ls hl => ?_)
          refine lv_iinc (v := iI ((k + 1 : Nat) : Int)) (lv' := [(3, .int (iI ((k + 1 : Nat) : Int))), (2, .int (iI (((psm (prc (omF au) er cn ac cu pa pb) st1 k) + (prc (omF au) er cn ac cu pa pb k) : Nat) : Int))), (0, .ref hm), (1, .int (iI ((st1 : Nat) : Int)))]) hx hb dX5_priceOfAll_35 hl (k := 3) rfl ((iI_add _ _).trans (ii (rfl))) (by decide) rfl (fun ls hl => ?_)
          refine lv_goto (tgt := 4) hx hb dX5_priceOfAll_38 (by decide) ?_
          have hl : lv_has ls 4 [(3, .int (iI ((k + 1 : Nat) : Int))), (2, .int (iI ((psm (prc (omF au) er cn ac cu pa pb) st1 (k + 1) : Nat) : Int))), (0, .ref hm), (1, .int (iI ((st1 : Nat) : Int)))] := lv_chg hl 1 2 rfl (show ((((psm (prc (omF au) er cn ac cu pa pb) st1 k) + (prc (omF au) er cn ac cu pa pb k) : Nat) : Int) : Int) = ((psm (prc (omF au) er cn ac cu pa pb) st1 (k + 1) : Nat) : Int) from by first | (rw [psm_t (hb1.mp (by omega))]) | (rw [psm_f (fun q => by have q1 := hb1.mpr q; omega)]; rfl)) rfl
          exact ih_4 (k + 1) (by first | omega | (rw [show k = en by omega])) (by first | assumption | (first | omega | (rw [show k = en by omega]))) ls (lv_sub hl [2, 3, 1, 0] rfl)
  have hl : lv_has ls 4 [(3, .int (iI 0)), (2, .int (iI ((psm (prc (omF au) er cn ac cu pa pb) st1 0 : Nat) : Int))), (0, .ref hm), (1, .int (iI ((st1 : Nat) : Int)))] := lv_chg hl 1 2 rfl (show (0 : Int) = ((psm (prc (omF au) er cn ac cu pa pb) st1 0 : Nat) : Int) from by rfl) rfl
  exact loop_4 ((en - 0) + 1) 0 (by first | omega | (rw [show k = en by omega])) (by first | assumption | (first | omega | (rw [show k = en by omega]))) ls (lv_sub hl [2, 3, 1, 0] rfl)

theorem kX5_charactersOf_7 : Cond.fieldLink RX5 7 "PricedUndoModel" "s" "[I" ∈ wsX5_charactersOf := by decide +kernel
theorem nX5_charactersOf_X5 : ∀ w ∈ u_ws RX5 TX5 17, w ∈ wsX5_charactersOf := by decide +kernel
set_option maxHeartbeats 4000000 in
set_option maxRecDepth 100000 in
theorem m_charactersOf (l : Launch) (D : va_G) (cI cB cZ cO : ClassId) (hm : Nat) (m1 : Nat) (m2 : Nat) (m3 : Nat) (m4 : Nat) (m5 : Nat) (m6 : Nat) (m7 : Nat) (m8 : Nat) (pa : Nat) (pb : Nat) (cp : Nat) (ty : Nat) (nx : Nat) (fi : Int) (se : Int) (le : Nat) (bp : Int) (cn : Nat) (en : Nat) (ac : Nat) (cu : Nat) (co : Nat → Nat) (au : Nat → Int) (er : Nat → Nat) (ki : Nat → Nat) (bs : Nat → Int) (e1 : Nat) (hcn : cn ≤ 160) (hau : ∀ k, -1 ≤ au k ∧ au k < 16) (her : ∀ k, er k < 65536) (hki : ∀ k, ki k ≤ 1) (he1 : e1 < 16) (hk0 : ki e1 = 0 → ∀ k, k < cn → (er k).testBit e1 = false) (hk1 : ¬ ki e1 = 0 → ∀ k, k < cn → ¬ au k = (e1 : Int)) : Met l yX5_charactersOf wsX5_charactersOf ({ frames := 0, cells := 0, slots := 0, locals := 0 }) (va_Pc [.ref hm, .int (iI ((e1 : Nat) : Int))] (RO D cI cB cZ cO [(hm, .inr (5, [.ref m1, .ref m2, .ref m3, .int (iI ((pa : Nat) : Int)), .int (iI ((pb : Nat) : Int)), .ref m4, .int (iI ((cp : Nat) : Int)), .ref m5, .int (iI ((ty : Nat) : Int)), .ref m6, .int (iI ((nx : Nat) : Int)), .int (iI (fi)), .int (iI (se)), .int (iI ((le : Nat) : Int)), .ref m7, .int (iI (bp)), .ref m8])), (m1, .inl (cI, 516, .inl (rI (sF cn en ac cu co au er ki bs))))])) (QO ((cnt (tch (omF au) er e1) cn : Nat) : Int)) 0 0 (fun _ => False) := by
  refine startO (cc := cX5_charactersOf) (maxL := 4) (ret := (some .int)) (by decide) rfl (Nat.le_of_ble_eq_true rfl) ?_
  intro p e s m below meth c S hr hlocks hE hP ls hl
  have hx := S.1
  have hb := S.2.1
  have hown := S.2.2.2.1
  have hts := S.2.2.2.2
  have hK := hE.1
  have hl : lv_has ls 4 [(0, .ref hm), (1, .int (iI ((e1 : Nat) : Int)))] := hl
  refine r_iconst hx hb dX5_charactersOf_0 ?_
  refine lv_istore_n (lv' := [(2, .int (iI 0)), (0, .ref hm), (1, .int (iI ((e1 : Nat) : Int)))]) hx hb dX5_charactersOf_1 rfl hl (by decide) rfl (fun ls hl => ?_)
  refine r_iconst hx hb dX5_charactersOf_2 ?_
  refine lv_istore_n (lv' := [(3, .int (iI 0)), (2, .int (iI 0)), (0, .ref hm), (1, .int (iI ((e1 : Nat) : Int)))]) hx hb dX5_charactersOf_3 rfl hl (by decide) rfl (fun ls hl => ?_)
  have loop_4 : ∀ (n_4 : Nat) (k : Nat), (cn - k) < n_4 → (k ≤ cn) → ∀ (ls : Array Slot), lv_has ls 4 [(0, .ref hm), (1, .int (iI ((e1 : Nat) : Int))), (2, .int (iI ((cnt (tch (omF au) er e1) k : Nat) : Int))), (3, .int (iI ((k : Nat) : Int)))] → W p l e ({ frames := 0, cells := 0, slots := 0, locals := 0 }) s m ([.ref hm, .int (iI ((e1 : Nat) : Int))] : List Value).toArray below meth c s.heap [] 0 0 (MQ below (QO ((cnt (tch (omF au) er e1) cn : Nat) : Int)) ([.ref hm, .int (iI ((e1 : Nat) : Int))] : List Value).toArray s 0 0 (fun _ => False)) (F0 m 4 ls []) := by
    intro n_4
    induction n_4 with
    | zero => intro k h_meas; exact absurd h_meas (Nat.not_lt_zero _)
    | succ n_4 ih_4 =>
      intro k h_m4 ik ls hl
      have hauk := hau k
      have herk := her k
      have hkik := hki e1
      have hsl := Nat.shiftRight_le (er k) e1
      have hsa := @Nat.and_le_left ((er k) >>> e1) 1
      have hb1 := tb1 (er k) e1
      have hb0 := tb0 (er k) e1
      refine lv_iload_n hx hb dX5_charactersOf_4 rfl (lv_at hl 3 rfl) ?_
      refine lv_aload_n hx hb dX5_charactersOf_5 rfl (lv_at hl 0 rfl) ?_
      refine va_get (D := D) (ci := 5) (v := .ref m1) (C := RX5) (T := TX5) (N := 17) hx hb hts nX5_charactersOf_X5 hown hK hP 0 rfl rfl 0 (by decide) (hts _ kX5_charactersOf_7) (fun _ h9 => h9) rfl dX5_charactersOf_6 ?_
      refine r_iconst hx hb dX5_charactersOf_9 ?_
      refine r_ialdV (v := ((cn : Nat) : Int)) hx hb hK hP 1 0 rfl rfl (0) (rfl) (by decide) (by decide) (rfl) dX5_charactersOf_10 ?_
      refine r_icmp_ge (tgt := 72) hx hb (by first | omega | (rw [show k = cn by omega])) (by first | omega | (rw [show k = cn by omega])) dX5_charactersOf_11 (by decide) (fun c_1 => ?_) (fun c_1 => ?_)
      · skip
        refine lv_iload_n hx hb dX5_charactersOf_72 rfl (lv_at hl 2 rfl) ?_
        exact r_iretO hx hb hr hlocks (by first | omega | (rw [show k = cn by omega])) dX5_charactersOf_73
      · skip
        refine lv_iload_n hx hb dX5_charactersOf_14 rfl (lv_at hl 2 rfl) ?_
        refine lv_aload_n hx hb dX5_charactersOf_15 rfl (lv_at hl 0 rfl) ?_
        refine va_get (D := D) (ci := 5) (v := .ref m1) (C := RX5) (T := TX5) (N := 17) hx hb hts nX5_charactersOf_X5 hown hK hP 0 rfl rfl 0 (by decide) (hts _ kX5_charactersOf_7) (fun _ h9 => h9) rfl dX5_charactersOf_16 ?_
        refine r_sipush hx hb dX5_charactersOf_19 (by decide) ?_
        refine lv_iload_n hx hb dX5_charactersOf_22 rfl (lv_at hl 1 rfl) ?_
        refine r_iadd (v := ((484 + e1 : Nat) : Int)) hx hb (rfl) dX5_charactersOf_23 ?_
        refine r_ialdV (v := ((ki e1 : Nat) : Int)) hx hb hK hP 1 0 rfl rfl (484 + e1) (rfl) (by first | omega | (rw [show k = cn by omega])) (by decide) (sF_ki (by first | omega | (rw [show k = cn by omega]))) dX5_charactersOf_24 ?_
        refine r_if_ne (tgt := 50) hx hb (by first | omega | (rw [show k = cn by omega])) dX5_charactersOf_25 (by decide) (fun c_2 => ?_) (fun c_2 => ?_)
        · skip
          refine lv_aload_n hx hb dX5_charactersOf_50 rfl (lv_at hl 0 rfl) ?_
          refine va_get (D := D) (ci := 5) (v := .ref m1) (C := RX5) (T := TX5) (N := 17) hx hb hts nX5_charactersOf_X5 hown hK hP 0 rfl rfl 0 (by decide) (hts _ kX5_charactersOf_7) (fun _ h9 => h9) rfl dX5_charactersOf_51 ?_
          refine r_sipush hx hb dX5_charactersOf_54 (by decide) ?_
          refine lv_iload_n hx hb dX5_charactersOf_57 rfl (lv_at hl 3 rfl) ?_
          refine r_iadd (v := ((324 + k : Nat) : Int)) hx hb (rfl) dX5_charactersOf_58 ?_
          refine r_ialdV (v := ((er k : Nat) : Int)) hx hb hK hP 1 0 rfl rfl (324 + k) (rfl) (by first | omega | (rw [show k = cn by omega])) (by decide) (sF_er (by first | omega | (rw [show k = cn by omega]))) dX5_charactersOf_59 ?_
          refine lv_iload_n hx hb dX5_charactersOf_60 rfl (lv_at hl 1 rfl) ?_
          refine r_ishr hx hb (er k) (e1) (rfl) (rfl) (by first | omega | (rw [show k = cn by omega])) (by first | omega | (rw [show k = cn by omega])) dX5_charactersOf_61 ?_
          refine r_iconst hx hb dX5_charactersOf_62 ?_
          refine r_iand hx hb ((er k) >>> e1) (1) (rfl) (rfl) dX5_charactersOf_63 ?_
          refine r_iadd (v := (((cnt (tch (omF au) er e1) k) + (((er k) >>> e1) &&& 1) : Nat) : Int)) hx hb (rfl) dX5_charactersOf_64 ?_
          refine lv_istore_n (lv' := [(2, .int (iI (((cnt (tch (omF au) er e1) k) + (((er k) >>> e1) &&& 1) : Nat) : Int))), (0, .ref hm), (1, .int (iI ((e1 : Nat) : Int))), (3, .int (iI ((k : Nat) : Int)))]) hx hb dX5_charactersOf_65 rfl hl (by decide) rfl (fun ls hl => ?_)
          refine lv_iinc (v := iI ((k + 1 : Nat) : Int)) (lv' := [(3, .int (iI ((k + 1 : Nat) : Int))), (2, .int (iI (((cnt (tch (omF au) er e1) k) + (((er k) >>> e1) &&& 1) : Nat) : Int))), (0, .ref hm), (1, .int (iI ((e1 : Nat) : Int)))]) hx hb dX5_charactersOf_66 hl (k := 3) rfl ((iI_add _ _).trans (ii (rfl))) (by decide) rfl (fun ls hl => ?_)
          refine lv_goto (tgt := 4) hx hb dX5_charactersOf_69 (by decide) ?_
          have hl : lv_has ls 4 [(3, .int (iI ((k + 1 : Nat) : Int))), (2, .int (iI ((cnt (tch (omF au) er e1) (k + 1) : Nat) : Int))), (0, .ref hm), (1, .int (iI ((e1 : Nat) : Int)))] := lv_chg hl 1 2 rfl (show ((((cnt (tch (omF au) er e1) k) + (((er k) >>> e1) &&& 1) : Nat) : Int) : Int) = ((cnt (tch (omF au) er e1) (k + 1) : Nat) : Int) from by first | (rw [cnt_t (tch_om.mpr (Or.inl (by omega)))]) | (rw [cnt_f (fun q => by rcases tch_om.mp q with h8 | h8; omega; (rw [hk0 (by omega) k (by omega)] at h8; cases h8))]; rfl) | (have hnk := hk1 (by omega) k (by omega); rw [bit_c]; cases h9 : (er k).testBit e1; (rw [cnt_f (fun q => by rcases tch_om.mp q with h8 | h8; omega; (rw [h9] at h8; cases h8))]; rfl); (rw [cnt_t (tch_om.mpr (Or.inr h9))]; rfl))) rfl
          exact ih_4 (k + 1) (by first | omega | (rw [show k = cn by omega])) (by first | assumption | (first | omega | (rw [show k = cn by omega]))) ls (lv_sub hl [2, 3, 1, 0] rfl)
        · skip
          refine lv_aload_n hx hb dX5_charactersOf_28 rfl (lv_at hl 0 rfl) ?_
          refine va_get (D := D) (ci := 5) (v := .ref m1) (C := RX5) (T := TX5) (N := 17) hx hb hts nX5_charactersOf_X5 hown hK hP 0 rfl rfl 0 (by decide) (hts _ kX5_charactersOf_7) (fun _ h9 => h9) rfl dX5_charactersOf_29 ?_
          refine r_sipush hx hb dX5_charactersOf_32 (by decide) ?_
          refine lv_iload_n hx hb dX5_charactersOf_35 rfl (lv_at hl 3 rfl) ?_
          refine r_iadd (v := ((164 + k : Nat) : Int)) hx hb (rfl) dX5_charactersOf_36 ?_
          refine r_ialdV (v := (au k)) hx hb hK hP 1 0 rfl rfl (164 + k) (rfl) (by first | omega | (rw [show k = cn by omega])) (by decide) (sF_au (by first | omega | (rw [show k = cn by omega]))) dX5_charactersOf_37 ?_
          refine lv_iload_n hx hb dX5_charactersOf_38 rfl (lv_at hl 1 rfl) ?_
          refine r_icmp_ne (tgt := 46) hx hb (by first | omega | (rw [show k = cn by omega])) (by first | omega | (rw [show k = cn by omega])) dX5_charactersOf_39 (by decide) (fun c_3 => ?_) (fun c_3 => ?_)
          · skip
            refine r_iconst hx hb dX5_charactersOf_46 ?_
            refine lv_goto (tgt := 64) hx hb dX5_charactersOf_47 (by decide) ?_
            refine r_iadd (v := (((cnt (tch (omF au) er e1) k) + 0 : Nat) : Int)) hx hb (rfl) dX5_charactersOf_64 ?_
            refine lv_istore_n (lv' := [(2, .int (iI (((cnt (tch (omF au) er e1) k) + 0 : Nat) : Int))), (0, .ref hm), (1, .int (iI ((e1 : Nat) : Int))), (3, .int (iI ((k : Nat) : Int)))]) hx hb dX5_charactersOf_65 rfl hl (by decide) rfl (fun ls hl => ?_)
            refine lv_iinc (v := iI ((k + 1 : Nat) : Int)) (lv' := [(3, .int (iI ((k + 1 : Nat) : Int))), (2, .int (iI (((cnt (tch (omF au) er e1) k) + 0 : Nat) : Int))), (0, .ref hm), (1, .int (iI ((e1 : Nat) : Int)))]) hx hb dX5_charactersOf_66 hl (k := 3) rfl ((iI_add _ _).trans (ii (rfl))) (by decide) rfl (fun ls hl => ?_)
            refine lv_goto (tgt := 4) hx hb dX5_charactersOf_69 (by decide) ?_
            have hl : lv_has ls 4 [(3, .int (iI ((k + 1 : Nat) : Int))), (2, .int (iI ((cnt (tch (omF au) er e1) (k + 1) : Nat) : Int))), (0, .ref hm), (1, .int (iI ((e1 : Nat) : Int)))] := lv_chg hl 1 2 rfl (show ((((cnt (tch (omF au) er e1) k) + 0 : Nat) : Int) : Int) = ((cnt (tch (omF au) er e1) (k + 1) : Nat) : Int) from by first | (rw [cnt_t (tch_om.mpr (Or.inl (by omega)))]) | (rw [cnt_f (fun q => by rcases tch_om.mp q with h8 | h8; omega; (rw [hk0 (by omega) k (by omega)] at h8; cases h8))]; rfl) | (have hnk := hk1 (by omega) k (by omega); rw [bit_c]; cases h9 : (er k).testBit e1; (rw [cnt_f (fun q => by rcases tch_om.mp q with h8 | h8; omega; (rw [h9] at h8; cases h8))]; rfl); (rw [cnt_t (tch_om.mpr (Or.inr h9))]; rfl))) rfl
            exact ih_4 (k + 1) (by first | omega | (rw [show k = cn by omega])) (by first | assumption | (first | omega | (rw [show k = cn by omega]))) ls (lv_sub hl [2, 3, 1, 0] rfl)
          · skip
            refine r_iconst hx hb dX5_charactersOf_42 ?_
            refine lv_goto (tgt := 64) hx hb dX5_charactersOf_43 (by decide) ?_
            refine r_iadd (v := (((cnt (tch (omF au) er e1) k) + 1 : Nat) : Int)) hx hb (rfl) dX5_charactersOf_64 ?_
            refine lv_istore_n (lv' := [(2, .int (iI (((cnt (tch (omF au) er e1) k) + 1 : Nat) : Int))), (0, .ref hm), (1, .int (iI ((e1 : Nat) : Int))), (3, .int (iI ((k : Nat) : Int)))]) hx hb dX5_charactersOf_65 rfl hl (by decide) rfl (fun ls hl => ?_)
            refine lv_iinc (v := iI ((k + 1 : Nat) : Int)) (lv' := [(3, .int (iI ((k + 1 : Nat) : Int))), (2, .int (iI (((cnt (tch (omF au) er e1) k) + 1 : Nat) : Int))), (0, .ref hm), (1, .int (iI ((e1 : Nat) : Int)))]) hx hb dX5_charactersOf_66 hl (k := 3) rfl ((iI_add _ _).trans (ii (rfl))) (by decide) rfl (fun ls hl => ?_)
            refine lv_goto (tgt := 4) hx hb dX5_charactersOf_69 (by decide) ?_
            have hl : lv_has ls 4 [(3, .int (iI ((k + 1 : Nat) : Int))), (2, .int (iI ((cnt (tch (omF au) er e1) (k + 1) : Nat) : Int))), (0, .ref hm), (1, .int (iI ((e1 : Nat) : Int)))] := lv_chg hl 1 2 rfl (show ((((cnt (tch (omF au) er e1) k) + 1 : Nat) : Int) : Int) = ((cnt (tch (omF au) er e1) (k + 1) : Nat) : Int) from by first | (rw [cnt_t (tch_om.mpr (Or.inl (by omega)))]) | (rw [cnt_f (fun q => by rcases tch_om.mp q with h8 | h8; omega; (rw [hk0 (by omega) k (by omega)] at h8; cases h8))]; rfl) | (have hnk := hk1 (by omega) k (by omega); rw [bit_c]; cases h9 : (er k).testBit e1; (rw [cnt_f (fun q => by rcases tch_om.mp q with h8 | h8; omega; (rw [h9] at h8; cases h8))]; rfl); (rw [cnt_t (tch_om.mpr (Or.inr h9))]; rfl))) rfl
            exact ih_4 (k + 1) (by first | omega | (rw [show k = cn by omega])) (by first | assumption | (first | omega | (rw [show k = cn by omega]))) ls (lv_sub hl [2, 3, 1, 0] rfl)
  have hl : lv_has ls 4 [(3, .int (iI 0)), (2, .int (iI ((cnt (tch (omF au) er e1) 0 : Nat) : Int))), (0, .ref hm), (1, .int (iI ((e1 : Nat) : Int)))] := lv_chg hl 1 2 rfl (show (0 : Int) = ((cnt (tch (omF au) er e1) 0 : Nat) : Int) from by rfl) rfl
  exact loop_4 ((cn - 0) + 1) 0 (by first | omega | (rw [show k = cn by omega])) (by first | assumption | (first | omega | (rw [show k = cn by omega]))) ls (lv_sub hl [2, 3, 1, 0] rfl)
