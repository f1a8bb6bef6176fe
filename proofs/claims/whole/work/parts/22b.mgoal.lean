set_option maxHeartbeats 4000000 in
set_option maxRecDepth 100000 in
theorem m_unasked_bad (l : Launch) (D : va_G) (cI cB cZ cO : ClassId) (hm : Nat) (m1 : Nat) (m2 : Nat) (m3 : Nat) (m4 : Nat) (m5 : Nat) (m6 : Nat) (m7 : Nat) (m8 : Nat) (pa : Nat) (pb : Nat) (cp : Nat) (ty : Nat) (nx : Nat) (fi : Int) (se : Int) (le : Nat) (bp : Int) (cn : Nat) (en : Nat) (ac : Nat) (cu : Nat) (co : Nat → Nat) (au : Nat → Int) (er : Nat → Nat) (ki : Nat → Nat) (bs : Nat → Int) (x : Int) (y : Int) (rx : rg x) (ry : rg y) (hbad : ¬ (0 ≤ x ∧ x ≤ 3 ∧ 0 ≤ y ∧ y ≤ 126)) : Met l yX5_unasked wsX5_unasked ({ frames := 1, cells := 0, slots := 0, locals := 22 }) (va_Pc [.ref hm, .int (iI (x)), .int (iI (y))] (RO D cI cB cZ cO [(hm, .inr (5, [.ref m1, .ref m2, .ref m3, .int (iI ((pa : Nat) : Int)), .int (iI ((pb : Nat) : Int)), .ref m4, .int (iI ((cp : Nat) : Int)), .ref m5, .int (iI ((ty : Nat) : Int)), .ref m6, .int (iI ((nx : Nat) : Int)), .int (iI (fi)), .int (iI (se)), .int (iI ((le : Nat) : Int)), .ref m7, .int (iI (bp)), .ref m8])), (m1, .inl (cI, 516, .inl (rI (sF cn en ac cu co au er ki bs))))])) (QO (-1)) 0 0 (fun _ => False) := by
  refine startO (cc := cX5_unasked) (maxL := 3) (ret := (some .int)) (by decide) rfl (Nat.le_of_ble_eq_true rfl) ?_
  intro p e s m below meth c S hr hlocks hE hP ls hl
  have hx := S.1
  have hb := S.2.1
  have hown := S.2.2.2.1
  have hts := S.2.2.2.2
  have hK := hE.1
  have hl : lv_has ls 3 [(0, .ref hm), (1, .int (iI (x))), (2, .int (iI (y)))] := hl
  refine lv_iload_n hx hb dX5_unasked_0 rfl (lv_at hl 1 rfl) ?_
  refine r_iconst hx hb dX5_unasked_1 ?_
  refine r_iconst hx hb dX5_unasked_2 ?_
  rw [show (0 : Int) = (0) from by omega]
  rw [show (3 : Int) = (3) from by omega]
  refine callSO (n := 3) (As := [.int (iI (x)), .int (iI (0)), .int (iI (3))]) (rest := []) (wc := []) S (m_in l D cI cB cZ cO x 0 3 (by first | assumption | (omega)) (by first | assumption | (omega)) (by first | assumption | (omega))) gX5_unasked_X5_in rfl ⟨rfl, rfl⟩ (by decide +kernel) ⟨Nat.le_of_ble_eq_true rfl, Nat.le_of_ble_eq_true rfl⟩ hE hP [] rfl rfl hl.1 rfl (Nat.le_of_ble_eq_true rfl) dX5_unasked_3 ⟨Nat.le_of_ble_eq_true rfl, Nat.le_of_ble_eq_true rfl⟩ ?_
  refine r_ifb_eq (tgt := 19) hx hb dX5_unasked_6 (by decide) (fun c_1 => ?_) (fun c_1 => ?_)
  · skip
    refine r_iconst hx hb dX5_unasked_19 ?_
    refine lv_goto (tgt := 43) hx hb dX5_unasked_20 (by decide) ?_
    exact r_iretO hx hb hr hlocks (rfl) dX5_unasked_43
  · skip
    refine lv_iload_n hx hb dX5_unasked_9 rfl (lv_at hl 2 rfl) ?_
    refine r_iconst hx hb dX5_unasked_10 ?_
    refine r_bipush hx hb dX5_unasked_11 (by decide) ?_
    rw [show (0 : Int) = (0) from by omega]
    rw [show (126 : Int) = (126) from by omega]
    refine callSO (n := 3) (As := [.int (iI (y)), .int (iI (0)), .int (iI (126))]) (rest := []) (wc := []) S (m_in l D cI cB cZ cO y 0 126 (by first | assumption | (omega)) (by first | assumption | (omega)) (by first | assumption | (omega))) gX5_unasked_X5_in rfl ⟨rfl, rfl⟩ (by decide +kernel) ⟨Nat.le_of_ble_eq_true rfl, Nat.le_of_ble_eq_true rfl⟩ hE hP [] rfl rfl hl.1 rfl (Nat.le_of_ble_eq_true rfl) dX5_unasked_13 ⟨Nat.le_of_ble_eq_true rfl, Nat.le_of_ble_eq_true rfl⟩ ?_
    refine r_ifb_ne (tgt := 23) hx hb dX5_unasked_16 (by decide) (fun c_2 => ?_) (fun c_2 => ?_)
    · skip
      exfalso; omega
    · skip
      refine r_iconst hx hb dX5_unasked_19 ?_
      refine lv_goto (tgt := 43) hx hb dX5_unasked_20 (by decide) ?_
      exact r_iretO hx hb hr hlocks (rfl) dX5_unasked_43

theorem kX5_unasked_7 : Cond.fieldLink RX5 7 "PricedUndoModel" "s" "[I" ∈ wsX5_unasked := by decide +kernel
theorem nX5_unasked_X5 : ∀ w ∈ u_ws RX5 TX5 17, w ∈ wsX5_unasked := by decide +kernel
set_option maxHeartbeats 4000000 in
set_option maxRecDepth 100000 in
theorem m_unasked_no (l : Launch) (D : va_G) (cI cB cZ cO : ClassId) (hm : Nat) (m1 : Nat) (m2 : Nat) (m3 : Nat) (m4 : Nat) (m5 : Nat) (m6 : Nat) (m7 : Nat) (m8 : Nat) (pa : Nat) (pb : Nat) (cp : Nat) (ty : Nat) (nx : Nat) (fi : Int) (se : Int) (le : Nat) (bp : Int) (cn : Nat) (en : Nat) (ac : Nat) (cu : Nat) (co : Nat → Nat) (au : Nat → Int) (er : Nat → Nat) (ki : Nat → Nat) (bs : Nat → Int) (kd : Nat) (va : Nat) (hac : ac < 65536) (hkd : kd ≤ 3) (hva : va ≤ 126) (hno : 12 < popc ac) : Met l yX5_unasked wsX5_unasked ({ frames := 1, cells := 0, slots := 0, locals := 22 }) (va_Pc [.ref hm, .int (iI ((kd : Nat) : Int)), .int (iI ((va : Nat) : Int))] (RO D cI cB cZ cO [(hm, .inr (5, [.ref m1, .ref m2, .ref m3, .int (iI ((pa : Nat) : Int)), .int (iI ((pb : Nat) : Int)), .ref m4, .int (iI ((cp : Nat) : Int)), .ref m5, .int (iI ((ty : Nat) : Int)), .ref m6, .int (iI ((nx : Nat) : Int)), .int (iI (fi)), .int (iI (se)), .int (iI ((le : Nat) : Int)), .ref m7, .int (iI (bp)), .ref m8])), (m1, .inl (cI, 516, .inl (rI (sF cn en ac cu co au er ki bs))))])) (QO (-2)) 0 0 (fun _ => False) := by
  refine startO (cc := cX5_unasked) (maxL := 3) (ret := (some .int)) (by decide) rfl (Nat.le_of_ble_eq_true rfl) ?_
  intro p e s m below meth c S hr hlocks hE hP ls hl
  have hx := S.1
  have hb := S.2.1
  have hown := S.2.2.2.1
  have hts := S.2.2.2.2
  have hK := hE.1
  have hl : lv_has ls 3 [(0, .ref hm), (1, .int (iI ((kd : Nat) : Int))), (2, .int (iI ((va : Nat) : Int)))] := hl
  have hpc : popc ac ≤ 16 := cnt_le _ _
  refine lv_iload_n hx hb dX5_unasked_0 rfl (lv_at hl 1 rfl) ?_
  refine r_iconst hx hb dX5_unasked_1 ?_
  refine r_iconst hx hb dX5_unasked_2 ?_
  rw [show (0 : Int) = (0) from by omega]
  rw [show (3 : Int) = (3) from by omega]
  refine callSO (n := 3) (As := [.int (iI ((kd : Nat) : Int)), .int (iI (0)), .int (iI (3))]) (rest := []) (wc := []) S (m_in l D cI cB cZ cO (((kd : Nat) : Int)) 0 3 (by first | assumption | (omega)) (by first | assumption | (omega)) (by first | assumption | (omega))) gX5_unasked_X5_in rfl ⟨rfl, rfl⟩ (by decide +kernel) ⟨Nat.le_of_ble_eq_true rfl, Nat.le_of_ble_eq_true rfl⟩ hE hP [] rfl rfl hl.1 rfl (Nat.le_of_ble_eq_true rfl) dX5_unasked_3 ⟨Nat.le_of_ble_eq_true rfl, Nat.le_of_ble_eq_true rfl⟩ ?_
  refine r_ifb_eq (tgt := 19) hx hb dX5_unasked_6 (by decide) (fun c_1 => ?_) (fun c_1 => ?_)
  · skip
    exfalso; omega
  · skip
    refine lv_iload_n hx hb dX5_unasked_9 rfl (lv_at hl 2 rfl) ?_
    refine r_iconst hx hb dX5_unasked_10 ?_
    refine r_bipush hx hb dX5_unasked_11 (by decide) ?_
    rw [show (0 : Int) = (0) from by omega]
    rw [show (126 : Int) = (126) from by omega]
    refine callSO (n := 3) (As := [.int (iI ((va : Nat) : Int)), .int (iI (0)), .int (iI (126))]) (rest := []) (wc := []) S (m_in l D cI cB cZ cO (((va : Nat) : Int)) 0 126 (by first | assumption | (omega)) (by first | assumption | (omega)) (by first | assumption | (omega))) gX5_unasked_X5_in rfl ⟨rfl, rfl⟩ (by decide +kernel) ⟨Nat.le_of_ble_eq_true rfl, Nat.le_of_ble_eq_true rfl⟩ hE hP [] rfl rfl hl.1 rfl (Nat.le_of_ble_eq_true rfl) dX5_unasked_13 ⟨Nat.le_of_ble_eq_true rfl, Nat.le_of_ble_eq_true rfl⟩ ?_
    refine r_ifb_ne (tgt := 23) hx hb dX5_unasked_16 (by decide) (fun c_2 => ?_) (fun c_2 => ?_)
    · skip
      refine lv_aload_n hx hb dX5_unasked_23 rfl (lv_at hl 0 rfl) ?_
      refine va_get (D := D) (ci := 5) (v := .ref m1) (C := RX5) (T := TX5) (N := 17) hx hb hts nX5_unasked_X5 hown hK hP 0 rfl rfl 0 (by decide) (hts _ kX5_unasked_7) (fun _ h9 => h9) rfl dX5_unasked_24 ?_
      refine r_iconst hx hb dX5_unasked_27 ?_
      refine r_ialdV (v := ((ac : Nat) : Int)) hx hb hK hP 1 0 rfl rfl (2) (rfl) (by decide) (by decide) (rfl) dX5_unasked_28 ?_
      refine callSO (n := 1) (As := [.int (iI ((ac : Nat) : Int))]) (rest := []) (wc := []) S (m_bits l D cI cB cZ cO ac (by first | assumption | (omega))) gX5_unasked_X5_bits rfl ⟨rfl, rfl⟩ (by decide +kernel) ⟨Nat.le_of_ble_eq_true rfl, Nat.le_of_ble_eq_true rfl⟩ hE hP [] rfl rfl hl.1 rfl (Nat.le_of_ble_eq_true rfl) dX5_unasked_29 ⟨Nat.le_of_ble_eq_true rfl, Nat.le_of_ble_eq_true rfl⟩ ?_
      refine r_bipush hx hb dX5_unasked_32 (by decide) ?_
      refine r_icmp_le (tgt := 42) hx hb (by omega) (⟨by decide, by decide⟩) dX5_unasked_34 (by decide) (fun c_3 => ?_) (fun c_3 => ?_)
      · skip
        exfalso; omega
      · skip
        refine r_bipush hx hb dX5_unasked_37 (by decide) ?_
        refine lv_goto (tgt := 43) hx hb dX5_unasked_39 (by decide) ?_
        exact r_iretO hx hb hr hlocks (rfl) dX5_unasked_43
    · skip
      exfalso; omega

set_option maxHeartbeats 4000000 in
set_option maxRecDepth 100000 in
theorem m_unasked (l : Launch) (D : va_G) (cI cB cZ cO : ClassId) (hm : Nat) (m1 : Nat) (m2 : Nat) (m3 : Nat) (m4 : Nat) (m5 : Nat) (m6 : Nat) (m7 : Nat) (m8 : Nat) (pa : Nat) (pb : Nat) (cp : Nat) (ty : Nat) (nx : Nat) (fi : Int) (se : Int) (le : Nat) (bp : Int) (cn : Nat) (en : Nat) (ac : Nat) (cu : Nat) (co : Nat → Nat) (au : Nat → Int) (er : Nat → Nat) (ki : Nat → Nat) (bs : Nat → Int) (kd : Nat) (va : Nat) (hac : ac < 65536) (hkd : kd ≤ 3) (hva : va ≤ 126) (hok : popc ac ≤ 12) : Met l yX5_unasked wsX5_unasked ({ frames := 1, cells := 0, slots := 0, locals := 22 }) (va_Pc [.ref hm, .int (iI ((kd : Nat) : Int)), .int (iI ((va : Nat) : Int))] (RO D cI cB cZ cO [(hm, .inr (5, [.ref m1, .ref m2, .ref m3, .int (iI ((pa : Nat) : Int)), .int (iI ((pb : Nat) : Int)), .ref m4, .int (iI ((cp : Nat) : Int)), .ref m5, .int (iI ((ty : Nat) : Int)), .ref m6, .int (iI ((nx : Nat) : Int)), .int (iI (fi)), .int (iI (se)), .int (iI ((le : Nat) : Int)), .ref m7, .int (iI (bp)), .ref m8])), (m1, .inl (cI, 516, .inl (rI (sF cn en ac cu co au er ki bs))))])) (QO 0) 0 0 (fun _ => False) := by
  refine startO (cc := cX5_unasked) (maxL := 3) (ret := (some .int)) (by decide) rfl (Nat.le_of_ble_eq_true rfl) ?_
  intro p e s m below meth c S hr hlocks hE hP ls hl
  have hx := S.1
  have hb := S.2.1
  have hown := S.2.2.2.1
  have hts := S.2.2.2.2
  have hK := hE.1
  have hl : lv_has ls 3 [(0, .ref hm), (1, .int (iI ((kd : Nat) : Int))), (2, .int (iI ((va : Nat) : Int)))] := hl
  refine lv_iload_n hx hb dX5_unasked_0 rfl (lv_at hl 1 rfl) ?_
  refine r_iconst hx hb dX5_unasked_1 ?_
  refine r_iconst hx hb dX5_unasked_2 ?_
  rw [show (0 : Int) = (0) from by omega]
  rw [show (3 : Int) = (3) from by omega]
  refine callSO (n := 3) (As := [.int (iI ((kd : Nat) : Int)), .int (iI (0)), .int (iI (3))]) (rest := []) (wc := []) S (m_in l D cI cB cZ cO (((kd : Nat) : Int)) 0 3 (by first | assumption | (omega)) (by first | assumption | (omega)) (by first | assumption | (omega))) gX5_unasked_X5_in rfl ⟨rfl, rfl⟩ (by decide +kernel) ⟨Nat.le_of_ble_eq_true rfl, Nat.le_of_ble_eq_true rfl⟩ hE hP [] rfl rfl hl.1 rfl (Nat.le_of_ble_eq_true rfl) dX5_unasked_3 ⟨Nat.le_of_ble_eq_true rfl, Nat.le_of_ble_eq_true rfl⟩ ?_
  refine r_ifb_eq (tgt := 19) hx hb dX5_unasked_6 (by decide) (fun c_1 => ?_) (fun c_1 => ?_)
  · skip
    exfalso; omega
  · skip
    refine lv_iload_n hx hb dX5_unasked_9 rfl (lv_at hl 2 rfl) ?_
    refine r_iconst hx hb dX5_unasked_10 ?_
    refine r_bipush hx hb dX5_unasked_11 (by decide) ?_
    rw [show (0 : Int) = (0) from by omega]
    rw [show (126 : Int) = (126) from by omega]
    refine callSO (n := 3) (As := [.int (iI ((va : Nat) : Int)), .int (iI (0)), .int (iI (126))]) (rest := []) (wc := []) S (m_in l D cI cB cZ cO (((va : Nat) : Int)) 0 126 (by first | assumption | (omega)) (by first | assumption | (omega)) (by first | assumption | (omega))) gX5_unasked_X5_in rfl ⟨rfl, rfl⟩ (by decide +kernel) ⟨Nat.le_of_ble_eq_true rfl, Nat.le_of_ble_eq_true rfl⟩ hE hP [] rfl rfl hl.1 rfl (Nat.le_of_ble_eq_true rfl) dX5_unasked_13 ⟨Nat.le_of_ble_eq_true rfl, Nat.le_of_ble_eq_true rfl⟩ ?_
    refine r_ifb_ne (tgt := 23) hx hb dX5_unasked_16 (by decide) (fun c_2 => ?_) (fun c_2 => ?_)
    · skip
      refine lv_aload_n hx hb dX5_unasked_23 rfl (lv_at hl 0 rfl) ?_
      refine va_get (D := D) (ci := 5) (v := .ref m1) (C := RX5) (T := TX5) (N := 17) hx hb hts nX5_unasked_X5 hown hK hP 0 rfl rfl 0 (by decide) (hts _ kX5_unasked_7) (fun _ h9 => h9) rfl dX5_unasked_24 ?_
      refine r_iconst hx hb dX5_unasked_27 ?_
      refine r_ialdV (v := ((ac : Nat) : Int)) hx hb hK hP 1 0 rfl rfl (2) (rfl) (by decide) (by decide) (rfl) dX5_unasked_28 ?_
      refine callSO (n := 1) (As := [.int (iI ((ac : Nat) : Int))]) (rest := []) (wc := []) S (m_bits l D cI cB cZ cO ac (by first | assumption | (omega))) gX5_unasked_X5_bits rfl ⟨rfl, rfl⟩ (by decide +kernel) ⟨Nat.le_of_ble_eq_true rfl, Nat.le_of_ble_eq_true rfl⟩ hE hP [] rfl rfl hl.1 rfl (Nat.le_of_ble_eq_true rfl) dX5_unasked_29 ⟨Nat.le_of_ble_eq_true rfl, Nat.le_of_ble_eq_true rfl⟩ ?_
      refine r_bipush hx hb dX5_unasked_32 (by decide) ?_
      refine r_icmp_le (tgt := 42) hx hb (by omega) (⟨by decide, by decide⟩) dX5_unasked_34 (by decide) (fun c_3 => ?_) (fun c_3 => ?_)
      · skip
        refine r_iconst hx hb dX5_unasked_42 ?_
        exact r_iretO hx hb hr hlocks (rfl) dX5_unasked_43
      · skip
        exfalso; omega
    · skip
      exfalso; omega

set_option maxHeartbeats 4000000 in
set_option maxRecDepth 100000 in
theorem m_isReached_0 (l : Launch) (D : va_G) (cI cB cZ cO : ClassId) (hm : Nat) (m1 : Nat) (m2 : Nat) (m3 : Nat) (m4 : Nat) (m5 : Nat) (m6 : Nat) (m7 : Nat) (m8 : Nat) (pa : Nat) (pb : Nat) (cp : Nat) (ty : Nat) (nx : Nat) (fi : Int) (se : Int) (le : Nat) (bp : Int) (cn : Nat) (en : Nat) (ac : Nat) (cu : Nat) (co : Nat → Nat) (au : Nat → Int) (er : Nat → Nat) (ki : Nat → Nat) (bs : Nat → Int) (va : Nat) (act : Nat) (hcn : cn ≤ 160) (hau : ∀ k, -1 ≤ au k ∧ au k < 16) (her : ∀ k, er k < 65536) (hco : ∀ k, co k < 65536) (hva : va ≤ 126) (hact : act < 65536) : Met l yX5_isReached wsX5_isReached ({ frames := 2, cells := 0, slots := 0, locals := 46 }) (va_Pc [.ref hm, .int (iI 0), .int (iI ((va : Nat) : Int)), .int (iI ((act : Nat) : Int))] (RO D cI cB cZ cO [(hm, .inr (5, [.ref m1, .ref m2, .ref m3, .int (iI ((pa : Nat) : Int)), .int (iI ((pb : Nat) : Int)), .ref m4, .int (iI ((cp : Nat) : Int)), .ref m5, .int (iI ((ty : Nat) : Int)), .ref m6, .int (iI ((nx : Nat) : Int)), .int (iI (fi)), .int (iI (se)), .int (iI ((le : Nat) : Int)), .ref m7, .int (iI (bp)), .ref m8])), (m1, .inl (cI, 516, .inl (rI (sF cn en ac cu co au er ki bs))))])) (QO (bI (rch (visb (omF au) er act) co cn 0 va act = true))) 0 0 (fun _ => False) := by
  refine startO (cc := cX5_isReached) (maxL := 7) (ret := (some .boolean)) (by decide) rfl (Nat.le_of_ble_eq_true rfl) ?_
  intro p e s m below meth c S hr hlocks hE hP ls hl
  have hx := S.1
  have hb := S.2.1
  have hown := S.2.2.2.1
  have hts := S.2.2.2.2
  have hK := hE.1
  have hl : lv_has ls 7 [(0, .ref hm), (1, .int (iI 0)), (2, .int (iI ((va : Nat) : Int))), (3, .int (iI ((act : Nat) : Int)))] := hl
  have hcl := cnt_le (visb (omF au) er act) cn
  refine lv_iload_n hx hb dX5_isReached_0 rfl (lv_at hl 1 rfl) ?_
  refine r_if_ne (tgt := 19) hx hb (⟨by decide, by decide⟩) dX5_isReached_1 (by decide) (fun c_1 => ?_) (fun c_1 => ?_)
  · skip
    exact absurd c_1 (by decide)
  · skip
    refine lv_aload_n hx hb dX5_isReached_4 rfl (lv_at hl 0 rfl) ?_
    refine lv_iload_n hx hb dX5_isReached_5 rfl (lv_at hl 3 rfl) ?_
    refine callVO (n := 1) (As := [.int (iI ((act : Nat) : Int))]) (rest := []) (wc := [(hm, .inr (5, [.ref m1, .ref m2, .ref m3, .int (iI ((pa : Nat) : Int)), .int (iI ((pb : Nat) : Int)), .ref m4, .int (iI ((cp : Nat) : Int)), .ref m5, .int (iI ((ty : Nat) : Int)), .ref m6, .int (iI ((nx : Nat) : Int)), .int (iI (fi)), .int (iI (se)), .int (iI ((le : Nat) : Int)), .ref m7, .int (iI (bp)), .ref m8])), (m1, .inl (cI, 516, .inl (rI (sF cn en ac cu co au er ki bs))))]) S (m_lengthBy l D cI cB cZ cO hm m1 m2 m3 m4 m5 m6 m7 m8 pa pb cp ty nx fi se le bp cn en ac cu co au er ki bs act (by first | assumption | (first | omega | exact decide_eq_true (by omega) | (intro h9; have h8 := of_decide_eq_true h9; omega))) (by first | assumption | (first | omega | exact decide_eq_true (by omega) | (intro h9; have h8 := of_decide_eq_true h9; omega))) (by first | assumption | (first | omega | exact decide_eq_true (by omega) | (intro h9; have h8 := of_decide_eq_true h9; omega))) (by first | assumption | (first | omega | exact decide_eq_true (by omega) | (intro h9; have h8 := of_decide_eq_true h9; omega)))) gX5_isReached_X5_lengthBy rfl ⟨rfl, rfl⟩ (by decide +kernel) ⟨Nat.le_of_ble_eq_true rfl, Nat.le_of_ble_eq_true rfl⟩ hE hP [0, 1] rfl 5 0 rfl rfl rfl hl.1 rfl (Nat.le_of_ble_eq_true rfl) dX5_isReached_6 ⟨Nat.le_of_ble_eq_true rfl, Nat.le_of_ble_eq_true rfl⟩ ?_
    refine lv_iload_n hx hb dX5_isReached_9 rfl (lv_at hl 2 rfl) ?_
    refine r_icmp_ne (tgt := 17) hx hb (by first | omega | exact decide_eq_true (by omega) | (intro h9; have h8 := of_decide_eq_true h9; omega)) (by first | omega | exact decide_eq_true (by omega) | (intro h9; have h8 := of_decide_eq_true h9; omega)) dX5_isReached_10 (by decide) (fun c_2 => ?_) (fun c_2 => ?_)
    · skip
      refine r_iconst hx hb dX5_isReached_17 ?_
      exact r_zretO hx hb hr hlocks ((bI_f (by first | omega | exact decide_eq_true (by omega) | (intro h9; have h8 := of_decide_eq_true h9; omega))).symm) (Or.inl rfl) dX5_isReached_18
    · skip
      refine r_iconst hx hb dX5_isReached_13 ?_
      refine lv_goto (tgt := 18) hx hb dX5_isReached_14 (by decide) ?_
      exact r_zretO hx hb hr hlocks ((bI_t (by first | omega | exact decide_eq_true (by omega) | (intro h9; have h8 := of_decide_eq_true h9; omega))).symm) (Or.inr rfl) dX5_isReached_18

set_option maxHeartbeats 4000000 in
set_option maxRecDepth 100000 in
theorem m_isReached_3 (l : Launch) (D : va_G) (cI cB cZ cO : ClassId) (hm : Nat) (m1 : Nat) (m2 : Nat) (m3 : Nat) (m4 : Nat) (m5 : Nat) (m6 : Nat) (m7 : Nat) (m8 : Nat) (pa : Nat) (pb : Nat) (cp : Nat) (ty : Nat) (nx : Nat) (fi : Int) (se : Int) (le : Nat) (bp : Int) (cn : Nat) (en : Nat) (ac : Nat) (cu : Nat) (co : Nat → Nat) (au : Nat → Int) (er : Nat → Nat) (ki : Nat → Nat) (bs : Nat → Int) (va : Nat) (act : Nat) (hcn : cn ≤ 160) (hau : ∀ k, -1 ≤ au k ∧ au k < 16) (her : ∀ k, er k < 65536) (hco : ∀ k, co k < 65536) (hva : va ≤ 126) (hact : act < 65536) : Met l yX5_isReached wsX5_isReached ({ frames := 2, cells := 0, slots := 0, locals := 46 }) (va_Pc [.ref hm, .int (iI 3), .int (iI ((va : Nat) : Int)), .int (iI ((act : Nat) : Int))] (RO D cI cB cZ cO [(hm, .inr (5, [.ref m1, .ref m2, .ref m3, .int (iI ((pa : Nat) : Int)), .int (iI ((pb : Nat) : Int)), .ref m4, .int (iI ((cp : Nat) : Int)), .ref m5, .int (iI ((ty : Nat) : Int)), .ref m6, .int (iI ((nx : Nat) : Int)), .int (iI (fi)), .int (iI (se)), .int (iI ((le : Nat) : Int)), .ref m7, .int (iI (bp)), .ref m8])), (m1, .inl (cI, 516, .inl (rI (sF cn en ac cu co au er ki bs))))])) (QO (bI (rch (visb (omF au) er act) co cn 3 va act = true))) 0 0 (fun _ => False) := by
  refine startO (cc := cX5_isReached) (maxL := 7) (ret := (some .boolean)) (by decide) rfl (Nat.le_of_ble_eq_true rfl) ?_
  intro p e s m below meth c S hr hlocks hE hP ls hl
  have hx := S.1
  have hb := S.2.1
  have hown := S.2.2.2.1
  have hts := S.2.2.2.2
  have hK := hE.1
  have hl : lv_has ls 7 [(0, .ref hm), (1, .int (iI 3)), (2, .int (iI ((va : Nat) : Int))), (3, .int (iI ((act : Nat) : Int)))] := hl
  have hal := @Nat.and_le_left act (2 ^ va - 1)
  have hm16 : va < 16 → min va 16 = va := fun h => by omega
  refine lv_iload_n hx hb dX5_isReached_0 rfl (lv_at hl 1 rfl) ?_
  refine r_if_ne (tgt := 19) hx hb (⟨by decide, by decide⟩) dX5_isReached_1 (by decide) (fun c_1 => ?_) (fun c_1 => ?_)
  · skip
    refine lv_iload_n hx hb dX5_isReached_19 rfl (lv_at hl 1 rfl) ?_
    refine r_iconst hx hb dX5_isReached_20 ?_
    refine r_icmp_ne (tgt := 50) hx hb (⟨by decide, by decide⟩) (⟨by decide, by decide⟩) dX5_isReached_21 (by decide) (fun c_2 => ?_) (fun c_2 => ?_)
    · skip
      exact absurd c_2 (by decide)
    · skip
      refine lv_iload_n hx hb dX5_isReached_24 rfl (lv_at hl 3 rfl) ?_
      refine lv_iload_n hx hb dX5_isReached_25 rfl (lv_at hl 2 rfl) ?_
      refine r_bipush hx hb dX5_isReached_26 (by decide) ?_
      refine r_icmp_ge (tgt := 39) hx hb (by first | omega | exact decide_eq_true (by rw [hm16 (by omega)]; omega) | (intro h9; have h8 := of_decide_eq_true h9; rw [hm16 (by omega)] at h8; omega) | exact decide_eq_true (by rw [and_m1 hact (by omega)]; omega) | (intro h9; have h8 := of_decide_eq_true h9; rw [and_m1 hact (by omega)] at h8; omega)) (⟨by decide, by decide⟩) dX5_isReached_28 (by decide) (fun c_3 => ?_) (fun c_3 => ?_)
      · skip
        refine r_iconst hx hb dX5_isReached_39 ?_
        refine r_iandm1 hx hb (act) (rfl) dX5_isReached_40 ?_
        refine r_if_ne (tgt := 48) hx hb (by first | omega | exact decide_eq_true (by rw [hm16 (by omega)]; omega) | (intro h9; have h8 := of_decide_eq_true h9; rw [hm16 (by omega)] at h8; omega) | exact decide_eq_true (by rw [and_m1 hact (by omega)]; omega) | (intro h9; have h8 := of_decide_eq_true h9; rw [and_m1 hact (by omega)] at h8; omega)) dX5_isReached_41 (by decide) (fun c_4 => ?_) (fun c_4 => ?_)
        · skip
          refine r_iconst hx hb dX5_isReached_48 ?_
          exact r_zretO hx hb hr hlocks ((bI_f (by first | omega | exact decide_eq_true (by rw [hm16 (by omega)]; omega) | (intro h9; have h8 := of_decide_eq_true h9; rw [hm16 (by omega)] at h8; omega) | exact decide_eq_true (by rw [and_m1 hact (by omega)]; omega) | (intro h9; have h8 := of_decide_eq_true h9; rw [and_m1 hact (by omega)] at h8; omega))).symm) (Or.inl rfl) dX5_isReached_49
        · skip
          refine r_iconst hx hb dX5_isReached_44 ?_
          refine lv_goto (tgt := 49) hx hb dX5_isReached_45 (by decide) ?_
          exact r_zretO hx hb hr hlocks ((bI_t (by first | omega | exact decide_eq_true (by rw [hm16 (by omega)]; omega) | (intro h9; have h8 := of_decide_eq_true h9; rw [hm16 (by omega)] at h8; omega) | exact decide_eq_true (by rw [and_m1 hact (by omega)]; omega) | (intro h9; have h8 := of_decide_eq_true h9; rw [and_m1 hact (by omega)] at h8; omega))).symm) (Or.inr rfl) dX5_isReached_49
      · skip
        refine r_iconst hx hb dX5_isReached_31 ?_
        refine lv_iload_n hx hb dX5_isReached_32 rfl (lv_at hl 2 rfl) ?_
        refine r_shl1 hx hb (va) (rfl) (by first | omega | exact decide_eq_true (by rw [hm16 (by omega)]; omega) | (intro h9; have h8 := of_decide_eq_true h9; rw [hm16 (by omega)] at h8; omega) | exact decide_eq_true (by rw [and_m1 hact (by omega)]; omega) | (intro h9; have h8 := of_decide_eq_true h9; rw [and_m1 hact (by omega)] at h8; omega)) dX5_isReached_33 ?_
        refine r_iconst hx hb dX5_isReached_34 ?_
        refine r_isub (v := ((2 ^ va - 1 : Nat) : Int)) hx hb (by have h9 := Nat.two_pow_pos va; omega) dX5_isReached_35 ?_
        refine lv_goto (tgt := 40) hx hb dX5_isReached_36 (by decide) ?_
        refine r_iand hx hb (act) (2 ^ va - 1) (rfl) (rfl) dX5_isReached_40 ?_
        refine r_if_ne (tgt := 48) hx hb (by first | omega | exact decide_eq_true (by rw [hm16 (by omega)]; omega) | (intro h9; have h8 := of_decide_eq_true h9; rw [hm16 (by omega)] at h8; omega) | exact decide_eq_true (by rw [and_m1 hact (by omega)]; omega) | (intro h9; have h8 := of_decide_eq_true h9; rw [and_m1 hact (by omega)] at h8; omega)) dX5_isReached_41 (by decide) (fun c_5 => ?_) (fun c_5 => ?_)
        · skip
          refine r_iconst hx hb dX5_isReached_48 ?_
          exact r_zretO hx hb hr hlocks ((bI_f (by first | omega | exact decide_eq_true (by rw [hm16 (by omega)]; omega) | (intro h9; have h8 := of_decide_eq_true h9; rw [hm16 (by omega)] at h8; omega) | exact decide_eq_true (by rw [and_m1 hact (by omega)]; omega) | (intro h9; have h8 := of_decide_eq_true h9; rw [and_m1 hact (by omega)] at h8; omega))).symm) (Or.inl rfl) dX5_isReached_49
        · skip
          refine r_iconst hx hb dX5_isReached_44 ?_
          refine lv_goto (tgt := 49) hx hb dX5_isReached_45 (by decide) ?_
          exact r_zretO hx hb hr hlocks ((bI_t (by first | omega | exact decide_eq_true (by rw [hm16 (by omega)]; omega) | (intro h9; have h8 := of_decide_eq_true h9; rw [hm16 (by omega)] at h8; omega) | exact decide_eq_true (by rw [and_m1 hact (by omega)]; omega) | (intro h9; have h8 := of_decide_eq_true h9; rw [and_m1 hact (by omega)] at h8; omega))).symm) (Or.inr rfl) dX5_isReached_49
  · skip
    exact absurd c_1 (by decide)

theorem kX5_isReached_7 : Cond.fieldLink RX5 7 "PricedUndoModel" "s" "[I" ∈ wsX5_isReached := by decide +kernel
theorem nX5_isReached_X5 : ∀ w ∈ u_ws RX5 TX5 17, w ∈ wsX5_isReached := by decide +kernel
set_option maxHeartbeats 4000000 in
set_option maxRecDepth 100000 in
theorem m_isReached_1 (l : Launch) (D : va_G) (cI cB cZ cO : ClassId) (hm : Nat) (m1 : Nat) (m2 : Nat) (m3 : Nat) (m4 : Nat) (m5 : Nat) (m6 : Nat) (m7 : Nat) (m8 : Nat) (pa : Nat) (pb : Nat) (cp : Nat) (ty : Nat) (nx : Nat) (fi : Int) (se : Int) (le : Nat) (bp : Int) (cn : Nat) (en : Nat) (ac : Nat) (cu : Nat) (co : Nat → Nat) (au : Nat → Int) (er : Nat → Nat) (ki : Nat → Nat) (bs : Nat → Int) (va : Nat) (act : Nat) (hcn : cn ≤ 160) (hau : ∀ k, -1 ≤ au k ∧ au k < 16) (her : ∀ k, er k < 65536) (hco : ∀ k, co k < 65536) (hva : va ≤ 126) (hact : act < 65536) : Met l yX5_isReached wsX5_isReached ({ frames := 2, cells := 0, slots := 0, locals := 46 }) (va_Pc [.ref hm, .int (iI 1), .int (iI ((va : Nat) : Int)), .int (iI ((act : Nat) : Int))] (RO D cI cB cZ cO [(hm, .inr (5, [.ref m1, .ref m2, .ref m3, .int (iI ((pa : Nat) : Int)), .int (iI ((pb : Nat) : Int)), .ref m4, .int (iI ((cp : Nat) : Int)), .ref m5, .int (iI ((ty : Nat) : Int)), .ref m6, .int (iI ((nx : Nat) : Int)), .int (iI (fi)), .int (iI (se)), .int (iI ((le : Nat) : Int)), .ref m7, .int (iI (bp)), .ref m8])), (m1, .inl (cI, 516, .inl (rI (sF cn en ac cu co au er ki bs))))])) (QO (bI (rch (visb (omF au) er act) co cn 1 va act = true))) 0 0 (fun _ => False) := by
  refine startO (cc := cX5_isReached) (maxL := 7) (ret := (some .boolean)) (by decide) rfl (Nat.le_of_ble_eq_true rfl) ?_
  intro p e s m below meth c S hr hlocks hE hP ls hl
  have hx := S.1
  have hb := S.2.1
  have hown := S.2.2.2.1
  have hts := S.2.2.2.2
  have hK := hE.1
  have hl : lv_has ls 7 [(0, .ref hm), (1, .int (iI 1)), (2, .int (iI ((va : Nat) : Int))), (3, .int (iI ((act : Nat) : Int)))] := hl
  refine lv_iload_n hx hb dX5_isReached_0 rfl (lv_at hl 1 rfl) ?_
  refine r_if_ne (tgt := 19) hx hb (⟨by decide, by decide⟩) dX5_isReached_1 (by decide) (fun c_1 => ?_) (fun c_1 => ?_)
  · skip
    refine lv_iload_n hx hb dX5_isReached_19 rfl (lv_at hl 1 rfl) ?_
    refine r_iconst hx hb dX5_isReached_20 ?_
    refine r_icmp_ne (tgt := 50) hx hb (⟨by decide, by decide⟩) (⟨by decide, by decide⟩) dX5_isReached_21 (by decide) (fun c_2 => ?_) (fun c_2 => ?_)
    · skip
      refine r_iconst hx hb dX5_isReached_50 ?_
      refine lv_istore (lv' := [(4, .int (iI 0)), (0, .ref hm), (1, .int (iI 1)), (2, .int (iI ((va : Nat) : Int))), (3, .int (iI ((act : Nat) : Int)))]) hx hb dX5_isReached_51 hl (by decide) rfl (fun ls hl => ?_)
      refine r_iconst hx hb dX5_isReached_53 ?_
      refine lv_istore (lv' := [(5, .int (iI 0)), (4, .int (iI 0)), (0, .ref hm), (1, .int (iI 1)), (2, .int (iI ((va : Nat) : Int))), (3, .int (iI ((act : Nat) : Int)))]) hx hb dX5_isReached_54 hl (by decide) rfl (fun ls hl => ?_)
      refine r_iconst hx hb dX5_isReached_56 ?_
      refine lv_istore (lv' := [(6, .int (iI 0)), (5, .int (iI 0)), (4, .int (iI 0)), (0, .ref hm), (1, .int (iI 1)), (2, .int (iI ((va : Nat) : Int))), (3, .int (iI ((act : Nat) : Int)))]) hx hb dX5_isReached_57 hl (by decide) rfl (fun ls hl => ?_)
      have loop_59 : ∀ (n_59 : Nat) (k : Nat), (cn - k) < n_59 → (k ≤ cn) → ∀ (ls : Array Slot), lv_has ls 7 [(0, .ref hm), (1, .int (iI 1)), (2, .int (iI ((va : Nat) : Int))), (3, .int (iI ((act : Nat) : Int))), (4, .int (iI (bI (¬ cnt (qv (visb (omF au) er act) co va) k = 0)))), (5, .int (iI ((cnt (visb (omF au) er act) k : Nat) : Int))), (6, .int (iI ((k : Nat) : Int)))] → W p l e ({ frames := 2, cells := 0, slots := 0, locals := 46 }) s m ([.ref hm, .int (iI 1), .int (iI ((va : Nat) : Int)), .int (iI ((act : Nat) : Int))] : List Value).toArray below meth c s.heap [] 0 0 (MQ below (QO (bI (rch (visb (omF au) er act) co cn 1 va act = true))) ([.ref hm, .int (iI 1), .int (iI ((va : Nat) : Int)), .int (iI ((act : Nat) : Int))] : List Value).toArray s 0 0 (fun _ => False)) (F0 m 59 ls []) := by
        intro n_59
        induction n_59 with
        | zero => intro k h_meas; exact absurd h_meas (Nat.not_lt_zero _)
        | succ n_59 ih_59 =>
          intro k h_m59 ik ls hl
          have hcok := hco k
          have hcl := cnt_le (visb (omF au) er act) k
          refine lv_iload hx hb dX5_isReached_59 (lv_at hl 6 rfl) ?_
          refine lv_aload_n hx hb dX5_isReached_61 rfl (lv_at hl 0 rfl) ?_
          refine va_get (D := D) (ci := 5) (v := .ref m1) (C := RX5) (T := TX5) (N := 17) hx hb hts nX5_isReached_X5 hown hK hP 0 rfl rfl 0 (by decide) (hts _ kX5_isReached_7) (fun _ h9 => h9) rfl dX5_isReached_62 ?_
          refine r_iconst hx hb dX5_isReached_65 ?_
          refine r_ialdV (v := ((cn : Nat) : Int)) hx hb hK hP 1 0 rfl rfl (0) (rfl) (by decide) (by decide) (rfl) dX5_isReached_66 ?_
          refine r_icmp_ge (tgt := 124) hx hb (by first | omega | exact decide_eq_true (by omega) | (intro h9; have h8 := of_decide_eq_true h9; omega)) (by first | omega | exact decide_eq_true (by omega) | (intro h9; have h8 := of_decide_eq_true h9; omega)) dX5_isReached_67 (by decide) (fun c_3 => ?_) (fun c_3 => ?_)
          · skip
            obtain rfl : cn = k := by omega
            refine lv_iload_n hx hb dX5_isReached_124 rfl (lv_at hl 1 rfl) ?_
            refine r_iconst hx hb dX5_isReached_125 ?_
            refine r_icmp_ne (tgt := 142) hx hb (⟨by decide, by decide⟩) (⟨by decide, by decide⟩) dX5_isReached_126 (by decide) (fun c_4 => ?_) (fun c_4 => ?_)
            · skip
              exact absurd c_4 (by decide)
            · skip
              refine lv_iload hx hb dX5_isReached_129 (lv_at hl 4 rfl) ?_
              refine r_ifb_ne (tgt := 138) hx hb dX5_isReached_131 (by decide) (fun c_5 => ?_) (fun c_5 => ?_)
              · skip
                refine r_iconst hx hb dX5_isReached_138 ?_
                refine lv_goto (tgt := 144) hx hb dX5_isReached_139 (by decide) ?_
                exact r_zretO hx hb hr hlocks ((bI_f (by first | omega | exact decide_eq_true (by omega) | (intro h9; have h8 := of_decide_eq_true h9; omega))).symm) (Or.inl rfl) dX5_isReached_144
              · skip
                refine r_iconst hx hb dX5_isReached_134 ?_
                refine lv_goto (tgt := 144) hx hb dX5_isReached_135 (by decide) ?_
                exact r_zretO hx hb hr hlocks ((bI_t (by first | omega | exact decide_eq_true (by omega) | (intro h9; have h8 := of_decide_eq_true h9; omega))).symm) (Or.inr rfl) dX5_isReached_144
          · skip
            refine lv_aload_n hx hb dX5_isReached_70 rfl (lv_at hl 0 rfl) ?_
            refine lv_iload hx hb dX5_isReached_71 (lv_at hl 6 rfl) ?_
            refine lv_iload_n hx hb dX5_isReached_73 rfl (lv_at hl 3 rfl) ?_
            refine callVO (n := 2) (As := [.int (iI ((k : Nat) : Int)), .int (iI ((act : Nat) : Int))]) (rest := []) (wc := [(hm, .inr (5, [.ref m1, .ref m2, .ref m3, .int (iI ((pa : Nat) : Int)), .int (iI ((pb : Nat) : Int)), .ref m4, .int (iI ((cp : Nat) : Int)), .ref m5, .int (iI ((ty : Nat) : Int)), .ref m6, .int (iI ((nx : Nat) : Int)), .int (iI (fi)), .int (iI (se)), .int (iI ((le : Nat) : Int)), .ref m7, .int (iI (bp)), .ref m8])), (m1, .inl (cI, 516, .inl (rI (sF cn en ac cu co au er ki bs))))]) S (m_isVisible l D cI cB cZ cO hm m1 m2 m3 m4 m5 m6 m7 m8 pa pb cp ty nx fi se le bp cn en ac cu co au er ki bs k act (by first | assumption | (first | omega | exact decide_eq_true (by omega) | (intro h9; have h8 := of_decide_eq_true h9; omega))) (by first | assumption | (first | omega | exact decide_eq_true (by omega) | (intro h9; have h8 := of_decide_eq_true h9; omega))) (by first | assumption | (first | omega | exact decide_eq_true (by omega) | (intro h9; have h8 := of_decide_eq_true h9; omega))) (by first | assumption | (first | omega | exact decide_eq_true (by omega) | (intro h9; have h8 := of_decide_eq_true h9; omega)))) gX5_isReached_X5_isVisible rfl ⟨rfl, rfl⟩ (by decide +kernel) ⟨Nat.le_of_ble_eq_true rfl, Nat.le_of_ble_eq_true rfl⟩ hE hP [0, 1] rfl 5 0 rfl rfl rfl hl.1 rfl (Nat.le_of_ble_eq_true rfl) dX5_isReached_74 ⟨Nat.le_of_ble_eq_true rfl, Nat.le_of_ble_eq_true rfl⟩ ?_
            refine r_ifb_eq (tgt := 118) hx hb dX5_isReached_77 (by decide) (fun c_6 => ?_) (fun c_6 => ?_)
            · skip
              refine lv_iinc (v := iI ((k + 1 : Nat) : Int)) (lv' := [(6, .int (iI ((k + 1 : Nat) : Int))), (0, .ref hm), (1, .int (iI 1)), (2, .int (iI ((va : Nat) : Int))), (3, .int (iI ((act : Nat) : Int))), (4, .int (iI (bI (¬ cnt (qv (visb (omF au) er act) co va) k = 0)))), (5, .int (iI ((cnt (visb (omF au) er act) k : Nat) : Int)))]) hx hb dX5_isReached_118 hl (k := 6) rfl ((iI_add _ _).trans (ii (rfl))) (by decide) rfl (fun ls hl => ?_)
              refine lv_goto (tgt := 59) hx hb dX5_isReached_121 (by decide) ?_
              have hl : lv_has ls 7 [(6, .int (iI ((k + 1 : Nat) : Int))), (0, .ref hm), (1, .int (iI 1)), (2, .int (iI ((va : Nat) : Int))), (3, .int (iI ((act : Nat) : Int))), (4, .int (iI (bI (¬ cnt (qv (visb (omF au) er act) co va) (k + 1) = 0)))), (5, .int (iI ((cnt (visb (omF au) er act) k : Nat) : Int)))] := lv_chg hl 5 4 rfl (show ((bI (¬ cnt (qv (visb (omF au) er act) co va) k = 0)) : Int) = (bI (¬ cnt (qv (visb (omF au) er act) co va) (k + 1) = 0)) from by first | exact bI_c (by rw [cnt_f (show ¬ qv (visb (omF au) er act) co va k = true from fun q => by have q1 := (Bool.and_eq_true _ _ ▸ q : _ ∧ _).1; exact absurd (of_decide_eq_true q1) (by assumption))]) | exact bI_t1 (by rw [cnt_t (show qv (visb (omF au) er act) co va k = true from by unfold qv; rw [vis_t (by assumption)]; exact decide_eq_true (by omega))]; omega) | exact bI_t1 (fun z => (by assumption : ¬ cnt (qv (visb (omF au) er act) co va) k = 0) (by have := cnt_mono (qv (visb (omF au) er act) co va) (show k ≤ k + 1 from Nat.le_succ k); omega)) | exact bI_f1 (fun z => z (by rw [cnt_f (show ¬ qv (visb (omF au) er act) co va k = true from fun q => by have q1 := (Bool.and_eq_true _ _ ▸ q : _ ∧ _).2; have q2 := of_decide_eq_true q1; omega)]; omega))) rfl
              have hl : lv_has ls 7 [(6, .int (iI ((k + 1 : Nat) : Int))), (0, .ref hm), (1, .int (iI 1)), (2, .int (iI ((va : Nat) : Int))), (3, .int (iI ((act : Nat) : Int))), (4, .int (iI (bI (¬ cnt (qv (visb (omF au) er act) co va) (k + 1) = 0)))), (5, .int (iI ((cnt (visb (omF au) er act) (k + 1) : Nat) : Int)))] := lv_chg hl 6 5 rfl (show (((cnt (visb (omF au) er act) k : Nat) : Int) : Int) = ((cnt (visb (omF au) er act) (k + 1) : Nat) : Int) from by first | (rw [cnt_vt (by assumption)]) | (rw [cnt_vf (by assumption)])) rfl
              exact ih_59 (k + 1) (by first | omega | exact decide_eq_true (by omega) | (intro h9; have h8 := of_decide_eq_true h9; omega)) (by first | assumption | (first | omega | exact decide_eq_true (by omega) | (intro h9; have h8 := of_decide_eq_true h9; omega))) ls (lv_sub hl [1, 2, 3, 4, 5, 6, 0] rfl)
            · skip
              refine lv_iload hx hb dX5_isReached_80 (lv_at hl 4 rfl) ?_
              refine r_ifb_ne (tgt := 108) hx hb dX5_isReached_82 (by decide) (fun c_7 => ?_) (fun c_7 => ?_)
              · skip
                refine r_iconst hx hb dX5_isReached_108 ?_
                refine lv_goto (tgt := 113) hx hb dX5_isReached_109 (by decide) ?_
                refine lv_istore (lv' := [(4, .int (iI 1)), (0, .ref hm), (1, .int (iI 1)), (2, .int (iI ((va : Nat) : Int))), (3, .int (iI ((act : Nat) : Int))), (5, .int (iI ((cnt (visb (omF au) er act) k : Nat) : Int))), (6, .int (iI ((k : Nat) : Int)))]) hx hb dX5_isReached_113 hl (by decide) rfl (fun ls hl => ?_)
                refine lv_iinc (v := iI (((cnt (visb (omF au) er act) k) + 1 : Nat) : Int)) (lv' := [(5, .int (iI (((cnt (visb (omF au) er act) k) + 1 : Nat) : Int))), (4, .int (iI 1)), (0, .ref hm), (1, .int (iI 1)), (2, .int (iI ((va : Nat) : Int))), (3, .int (iI ((act : Nat) : Int))), (6, .int (iI ((k : Nat) : Int)))]) hx hb dX5_isReached_115 hl (k := 5) rfl ((iI_add _ _).trans (ii (rfl))) (by decide) rfl (fun ls hl => ?_)
                refine lv_iinc (v := iI ((k + 1 : Nat) : Int)) (lv' := [(6, .int (iI ((k + 1 : Nat) : Int))), (5, .int (iI (((cnt (visb (omF au) er act) k) + 1 : Nat) : Int))), (4, .int (iI 1)), (0, .ref hm), (1, .int (iI 1)), (2, .int (iI ((va : Nat) : Int))), (3, .int (iI ((act : Nat) : Int)))]) hx hb dX5_isReached_118 hl (k := 6) rfl ((iI_add _ _).trans (ii (rfl))) (by decide) rfl (fun ls hl => ?_)
                refine lv_goto (tgt := 59) hx hb dX5_isReached_121 (by decide) ?_
                have hl : lv_has ls 7 [(6, .int (iI ((k + 1 : Nat) : Int))), (5, .int (iI (((cnt (visb (omF au) er act) k) + 1 : Nat) : Int))), (4, .int (iI (bI (¬ cnt (qv (visb (omF au) er act) co va) (k + 1) = 0)))), (0, .ref hm), (1, .int (iI 1)), (2, .int (iI ((va : Nat) : Int))), (3, .int (iI ((act : Nat) : Int)))] := lv_chg hl 2 4 rfl (show (1 : Int) = (bI (¬ cnt (qv (visb (omF au) er act) co va) (k + 1) = 0)) from by first | exact bI_c (by rw [cnt_f (show ¬ qv (visb (omF au) er act) co va k = true from fun q => by have q1 := (Bool.and_eq_true _ _ ▸ q : _ ∧ _).1; exact absurd (of_decide_eq_true q1) (by assumption))]) | exact bI_t1 (by rw [cnt_t (show qv (visb (omF au) er act) co va k = true from by unfold qv; rw [vis_t (by assumption)]; exact decide_eq_true (by omega))]; omega) | exact bI_t1 (fun z => (by assumption : ¬ cnt (qv (visb (omF au) er act) co va) k = 0) (by have := cnt_mono (qv (visb (omF au) er act) co va) (show k ≤ k + 1 from Nat.le_succ k); omega)) | exact bI_f1 (fun z => z (by rw [cnt_f (show ¬ qv (visb (omF au) er act) co va k = true from fun q => by have q1 := (Bool.and_eq_true _ _ ▸ q : _ ∧ _).2; have q2 := of_decide_eq_true q1; omega)]; omega))) rfl
                have hl : lv_has ls 7 [(6, .int (iI ((k + 1 : Nat) : Int))), (5, .int (iI ((cnt (visb (omF au) er act) (k + 1) : Nat) : Int))), (4, .int (iI (bI (¬ cnt (qv (visb (omF au) er act) co va) (k + 1) = 0)))), (0, .ref hm), (1, .int (iI 1)), (2, .int (iI ((va : Nat) : Int))), (3, .int (iI ((act : Nat) : Int)))] := lv_chg hl 1 5 rfl (show ((((cnt (visb (omF au) er act) k) + 1 : Nat) : Int) : Int) = ((cnt (visb (omF au) er act) (k + 1) : Nat) : Int) from by first | (rw [cnt_vt (by assumption)]) | (rw [cnt_vf (by assumption)])) rfl
                exact ih_59 (k + 1) (by first | omega | exact decide_eq_true (by omega) | (intro h9; have h8 := of_decide_eq_true h9; omega)) (by first | assumption | (first | omega | exact decide_eq_true (by omega) | (intro h9; have h8 := of_decide_eq_true h9; omega))) ls (lv_sub hl [3, 4, 5, 6, 2, 1, 0] rfl)
              · skip
                refine lv_aload_n hx hb dX5_isReached_85 rfl (lv_at hl 0 rfl) ?_
                refine va_get (D := D) (ci := 5) (v := .ref m1) (C := RX5) (T := TX5) (N := 17) hx hb hts nX5_isReached_X5 hown hK hP 0 rfl rfl 0 (by decide) (hts _ kX5_isReached_7) (fun _ h9 => h9) rfl dX5_isReached_86 ?_
                refine r_iconst hx hb dX5_isReached_89 ?_
                refine lv_iload hx hb dX5_isReached_90 (lv_at hl 6 rfl) ?_
                refine r_iadd (v := ((4 + k : Nat) : Int)) hx hb (rfl) dX5_isReached_92 ?_
                refine r_ialdV (v := ((co k : Nat) : Int)) hx hb hK hP 1 0 rfl rfl (4 + k) (rfl) (by first | omega | exact decide_eq_true (by omega) | (intro h9; have h8 := of_decide_eq_true h9; omega)) (by decide) (sF_co (by first | omega | exact decide_eq_true (by omega) | (intro h9; have h8 := of_decide_eq_true h9; omega))) dX5_isReached_93 ?_
                refine lv_iload_n hx hb dX5_isReached_94 rfl (lv_at hl 2 rfl) ?_
                refine r_icmp_ne (tgt := 112) hx hb (by first | omega | exact decide_eq_true (by omega) | (intro h9; have h8 := of_decide_eq_true h9; omega)) (by first | omega | exact decide_eq_true (by omega) | (intro h9; have h8 := of_decide_eq_true h9; omega)) dX5_isReached_95 (by decide) (fun c_8 => ?_) (fun c_8 => ?_)
                · skip
                  refine r_iconst hx hb dX5_isReached_112 ?_
                  refine lv_istore (lv' := [(4, .int (iI 0)), (0, .ref hm), (1, .int (iI 1)), (2, .int (iI ((va : Nat) : Int))), (3, .int (iI ((act : Nat) : Int))), (5, .int (iI ((cnt (visb (omF au) er act) k : Nat) : Int))), (6, .int (iI ((k : Nat) : Int)))]) hx hb dX5_isReached_113 hl (by decide) rfl (fun ls hl => ?_)
                  refine lv_iinc (v := iI (((cnt (visb (omF au) er act) k) + 1 : Nat) : Int)) (lv' := [(5, .int (iI (((cnt (visb (omF au) er act) k) + 1 : Nat) : Int))), (4, .int (iI 0)), (0, .ref hm), (1, .int (iI 1)), (2, .int (iI ((va : Nat) : Int))), (3, .int (iI ((act : Nat) : Int))), (6, .int (iI ((k : Nat) : Int)))]) hx hb dX5_isReached_115 hl (k := 5) rfl ((iI_add _ _).trans (ii (rfl))) (by decide) rfl (fun ls hl => ?_)
                  refine lv_iinc (v := iI ((k + 1 : Nat) : Int)) (lv' := [(6, .int (iI ((k + 1 : Nat) : Int))), (5, .int (iI (((cnt (visb (omF au) er act) k) + 1 : Nat) : Int))), (4, .int (iI 0)), (0, .ref hm), (1, .int (iI 1)), (2, .int (iI ((va : Nat) : Int))), (3, .int (iI ((act : Nat) : Int)))]) hx hb dX5_isReached_118 hl (k := 6) rfl ((iI_add _ _).trans (ii (rfl))) (by decide) rfl (fun ls hl => ?_)
                  refine lv_goto (tgt := 59) hx hb dX5_isReached_121 (by decide) ?_
                  have hl : lv_has ls 7 [(6, .int (iI ((k + 1 : Nat) : Int))), (5, .int (iI (((cnt (visb (omF au) er act) k) + 1 : Nat) : Int))), (4, .int (iI (bI (¬ cnt (qv (visb (omF au) er act) co va) (k + 1) = 0)))), (0, .ref hm), (1, .int (iI 1)), (2, .int (iI ((va : Nat) : Int))), (3, .int (iI ((act : Nat) : Int)))] := lv_chg hl 2 4 rfl (show (0 : Int) = (bI (¬ cnt (qv (visb (omF au) er act) co va) (k + 1) = 0)) from by first | exact bI_c (by rw [cnt_f (show ¬ qv (visb (omF au) er act) co va k = true from fun q => by have q1 := (Bool.and_eq_true _ _ ▸ q : _ ∧ _).1; exact absurd (of_decide_eq_true q1) (by assumption))]) | exact bI_t1 (by rw [cnt_t (show qv (visb (omF au) er act) co va k = true from by unfold qv; rw [vis_t (by assumption)]; exact decide_eq_true (by omega))]; omega) | exact bI_t1 (fun z => (by assumption : ¬ cnt (qv (visb (omF au) er act) co va) k = 0) (by have := cnt_mono (qv (visb (omF au) er act) co va) (show k ≤ k + 1 from Nat.le_succ k); omega)) | exact bI_f1 (fun z => z (by rw [cnt_f (show ¬ qv (visb (omF au) er act) co va k = true from fun q => by have q1 := (Bool.and_eq_true _ _ ▸ q : _ ∧ _).2; have q2 := of_decide_eq_true q1; omega)]; omega))) rfl
                  have hl : lv_has ls 7 [(6, .int (iI ((k + 1 : Nat) : Int))), (5, .int (iI ((cnt (visb (omF au) er act) (k + 1) : Nat) : Int))), (4, .int (iI (bI (¬ cnt (qv (visb (omF au) er act) co va) (k + 1) = 0)))), (0, .ref hm), (1, .int (iI 1)), (2, .int (iI ((va : Nat) : Int))), (3, .int (iI ((act : Nat) : Int)))] := lv_chg hl 1 5 rfl (show ((((cnt (visb (omF au) er act) k) + 1 : Nat) : Int) : Int) = ((cnt (visb (omF au) er act) (k + 1) : Nat) : Int) from by first | (rw [cnt_vt (by assumption)]) | (rw [cnt_vf (by assumption)])) rfl
                  exact ih_59 (k + 1) (by first | omega | exact decide_eq_true (by omega) | (intro h9; have h8 := of_decide_eq_true h9; omega)) (by first | assumption | (first | omega | exact decide_eq_true (by omega) | (intro h9; have h8 := of_decide_eq_true h9; omega))) ls (lv_sub hl [3, 4, 5, 6, 2, 1, 0] rfl)
                · skip
                  refine lv_iload_n hx hb dX5_isReached_98 rfl (lv_at hl 1 rfl) ?_
                  refine r_iconst hx hb dX5_isReached_99 ?_
                  refine r_icmp_eq (tgt := 108) hx hb (⟨by decide, by decide⟩) (⟨by decide, by decide⟩) dX5_isReached_100 (by decide) (fun c_9 => ?_) (fun c_9 => ?_)
                  · skip
                    refine r_iconst hx hb dX5_isReached_108 ?_
                    refine lv_goto (tgt := 113) hx hb dX5_isReached_109 (by decide) ?_
                    refine lv_istore (lv' := [(4, .int (iI 1)), (0, .ref hm), (1, .int (iI 1)), (2, .int (iI ((va : Nat) : Int))), (3, .int (iI ((act : Nat) : Int))), (5, .int (iI ((cnt (visb (omF au) er act) k : Nat) : Int))), (6, .int (iI ((k : Nat) : Int)))]) hx hb dX5_isReached_113 hl (by decide) rfl (fun ls hl => ?_)
                    refine lv_iinc (v := iI (((cnt (visb (omF au) er act) k) + 1 : Nat) : Int)) (lv' := [(5, .int (iI (((cnt (visb (omF au) er act) k) + 1 : Nat) : Int))), (4, .int (iI 1)), (0, .ref hm), (1, .int (iI 1)), (2, .int (iI ((va : Nat) : Int))), (3, .int (iI ((act : Nat) : Int))), (6, .int (iI ((k : Nat) : Int)))]) hx hb dX5_isReached_115 hl (k := 5) rfl ((iI_add _ _).trans (ii (rfl))) (by decide) rfl (fun ls hl => ?_)
                    refine lv_iinc (v := iI ((k + 1 : Nat) : Int)) (lv' := [(6, .int (iI ((k + 1 : Nat) : Int))), (5, .int (iI (((cnt (visb (omF au) er act) k) + 1 : Nat) : Int))), (4, .int (iI 1)), (0, .ref hm), (1, .int (iI 1)), (2, .int (iI ((va : Nat) : Int))), (3, .int (iI ((act : Nat) : Int)))]) hx hb dX5_isReached_118 hl (k := 6) rfl ((iI_add _ _).trans (ii (rfl))) (by decide) rfl (fun ls hl => ?_)
                    refine lv_goto (tgt := 59) hx hb dX5_isReached_121 (by decide) ?_
                    have hl : lv_has ls 7 [(6, .int (iI ((k + 1 : Nat) : Int))), (5, .int (iI (((cnt (visb (omF au) er act) k) + 1 : Nat) : Int))), (4, .int (iI (bI (¬ cnt (qv (visb (omF au) er act) co va) (k + 1) = 0)))), (0, .ref hm), (1, .int (iI 1)), (2, .int (iI ((va : Nat) : Int))), (3, .int (iI ((act : Nat) : Int)))] := lv_chg hl 2 4 rfl (show (1 : Int) = (bI (¬ cnt (qv (visb (omF au) er act) co va) (k + 1) = 0)) from by first | exact bI_c (by rw [cnt_f (show ¬ qv (visb (omF au) er act) co va k = true from fun q => by have q1 := (Bool.and_eq_true _ _ ▸ q : _ ∧ _).1; exact absurd (of_decide_eq_true q1) (by assumption))]) | exact bI_t1 (by rw [cnt_t (show qv (visb (omF au) er act) co va k = true from by unfold qv; rw [vis_t (by assumption)]; exact decide_eq_true (by omega))]; omega) | exact bI_t1 (fun z => (by assumption : ¬ cnt (qv (visb (omF au) er act) co va) k = 0) (by have := cnt_mono (qv (visb (omF au) er act) co va) (show k ≤ k + 1 from Nat.le_succ k); omega)) | exact bI_f1 (fun z => z (by rw [cnt_f (show ¬ qv (visb (omF au) er act) co va k = true from fun q => by have q1 := (Bool.and_eq_true _ _ ▸ q : _ ∧ _).2; have q2 := of_decide_eq_true q1; omega)]; omega))) rfl
                    have hl : lv_has ls 7 [(6, .int (iI ((k + 1 : Nat) : Int))), (5, .int (iI ((cnt (visb (omF au) er act) (k + 1) : Nat) : Int))), (4, .int (iI (bI (¬ cnt (qv (visb (omF au) er act) co va) (k + 1) = 0)))), (0, .ref hm), (1, .int (iI 1)), (2, .int (iI ((va : Nat) : Int))), (3, .int (iI ((act : Nat) : Int)))] := lv_chg hl 1 5 rfl (show ((((cnt (visb (omF au) er act) k) + 1 : Nat) : Int) : Int) = ((cnt (visb (omF au) er act) (k + 1) : Nat) : Int) from by first | (rw [cnt_vt (by assumption)]) | (rw [cnt_vf (by assumption)])) rfl
                    exact ih_59 (k + 1) (by first | omega | exact decide_eq_true (by omega) | (intro h9; have h8 := of_decide_eq_true h9; omega)) (by first | assumption | (first | omega | exact decide_eq_true (by omega) | (intro h9; have h8 := of_decide_eq_true h9; omega))) ls (lv_sub hl [3, 4, 5, 6, 2, 1, 0] rfl)
                  · skip
                    exact absurd c_9 (by decide)
      have hl : lv_has ls 7 [(6, .int (iI 0)), (5, .int (iI 0)), (4, .int (iI (bI (¬ cnt (qv (visb (omF au) er act) co va) 0 = 0)))), (0, .ref hm), (1, .int (iI 1)), (2, .int (iI ((va : Nat) : Int))), (3, .int (iI ((act : Nat) : Int)))] := lv_chg hl 2 4 rfl (show (0 : Int) = (bI (¬ cnt (qv (visb (omF au) er act) co va) 0 = 0)) from by exact bI_f1 (fun h => h rfl)) rfl
      have hl : lv_has ls 7 [(6, .int (iI 0)), (5, .int (iI ((cnt (visb (omF au) er act) 0 : Nat) : Int))), (4, .int (iI (bI (¬ cnt (qv (visb (omF au) er act) co va) 0 = 0)))), (0, .ref hm), (1, .int (iI 1)), (2, .int (iI ((va : Nat) : Int))), (3, .int (iI ((act : Nat) : Int)))] := lv_chg hl 1 5 rfl (show (0 : Int) = ((cnt (visb (omF au) er act) 0 : Nat) : Int) from by rfl) rfl
      exact loop_59 ((cn - 0) + 1) 0 (by first | omega | exact decide_eq_true (by omega) | (intro h9; have h8 := of_decide_eq_true h9; omega)) (by first | assumption | (first | omega | exact decide_eq_true (by omega) | (intro h9; have h8 := of_decide_eq_true h9; omega))) ls (lv_sub hl [3, 4, 5, 6, 2, 1, 0] rfl)
    · skip
      exact absurd c_2 (by decide)
  · skip
    exact absurd c_1 (by decide)

set_option maxHeartbeats 4000000 in
set_option maxRecDepth 100000 in
theorem m_isReached_2 (l : Launch) (D : va_G) (cI cB cZ cO : ClassId) (hm : Nat) (m1 : Nat) (m2 : Nat) (m3 : Nat) (m4 : Nat) (m5 : Nat) (m6 : Nat) (m7 : Nat) (m8 : Nat) (pa : Nat) (pb : Nat) (cp : Nat) (ty : Nat) (nx : Nat) (fi : Int) (se : Int) (le : Nat) (bp : Int) (cn : Nat) (en : Nat) (ac : Nat) (cu : Nat) (co : Nat → Nat) (au : Nat → Int) (er : Nat → Nat) (ki : Nat → Nat) (bs : Nat → Int) (va : Nat) (act : Nat) (hcn : cn ≤ 160) (hau : ∀ k, -1 ≤ au k ∧ au k < 16) (her : ∀ k, er k < 65536) (hco : ∀ k, co k < 65536) (hva : va ≤ 126) (hact : act < 65536) : Met l yX5_isReached wsX5_isReached ({ frames := 2, cells := 0, slots := 0, locals := 46 }) (va_Pc [.ref hm, .int (iI 2), .int (iI ((va : Nat) : Int)), .int (iI ((act : Nat) : Int))] (RO D cI cB cZ cO [(hm, .inr (5, [.ref m1, .ref m2, .ref m3, .int (iI ((pa : Nat) : Int)), .int (iI ((pb : Nat) : Int)), .ref m4, .int (iI ((cp : Nat) : Int)), .ref m5, .int (iI ((ty : Nat) : Int)), .ref m6, .int (iI ((nx : Nat) : Int)), .int (iI (fi)), .int (iI (se)), .int (iI ((le : Nat) : Int)), .ref m7, .int (iI (bp)), .ref m8])), (m1, .inl (cI, 516, .inl (rI (sF cn en ac cu co au er ki bs))))])) (QO (bI (rch (visb (omF au) er act) co cn 2 va act = true))) 0 0 (fun _ => False) := by
  refine startO (cc := cX5_isReached) (maxL := 7) (ret := (some .boolean)) (by decide) rfl (Nat.le_of_ble_eq_true rfl) ?_
  intro p e s m below meth c S hr hlocks hE hP ls hl
  have hx := S.1
  have hb := S.2.1
  have hown := S.2.2.2.1
  have hts := S.2.2.2.2
  have hK := hE.1
  have hl : lv_has ls 7 [(0, .ref hm), (1, .int (iI 2)), (2, .int (iI ((va : Nat) : Int))), (3, .int (iI ((act : Nat) : Int)))] := hl
  refine lv_iload_n hx hb dX5_isReached_0 rfl (lv_at hl 1 rfl) ?_
  refine r_if_ne (tgt := 19) hx hb (⟨by decide, by decide⟩) dX5_isReached_1 (by decide) (fun c_1 => ?_) (fun c_1 => ?_)
  · skip
    refine lv_iload_n hx hb dX5_isReached_19 rfl (lv_at hl 1 rfl) ?_
    refine r_iconst hx hb dX5_isReached_20 ?_
    refine r_icmp_ne (tgt := 50) hx hb (⟨by decide, by decide⟩) (⟨by decide, by decide⟩) dX5_isReached_21 (by decide) (fun c_2 => ?_) (fun c_2 => ?_)
    · skip
      refine r_iconst hx hb dX5_isReached_50 ?_
      refine lv_istore (lv' := [(4, .int (iI 0)), (0, .ref hm), (1, .int (iI 2)), (2, .int (iI ((va : Nat) : Int))), (3, .int (iI ((act : Nat) : Int)))]) hx hb dX5_isReached_51 hl (by decide) rfl (fun ls hl => ?_)
      refine r_iconst hx hb dX5_isReached_53 ?_
      refine lv_istore (lv' := [(5, .int (iI 0)), (4, .int (iI 0)), (0, .ref hm), (1, .int (iI 2)), (2, .int (iI ((va : Nat) : Int))), (3, .int (iI ((act : Nat) : Int)))]) hx hb dX5_isReached_54 hl (by decide) rfl (fun ls hl => ?_)
      refine r_iconst hx hb dX5_isReached_56 ?_
      refine lv_istore (lv' := [(6, .int (iI 0)), (5, .int (iI 0)), (4, .int (iI 0)), (0, .ref hm), (1, .int (iI 2)), (2, .int (iI ((va : Nat) : Int))), (3, .int (iI ((act : Nat) : Int)))]) hx hb dX5_isReached_57 hl (by decide) rfl (fun ls hl => ?_)
      have loop_59 : ∀ (n_59 : Nat) (k : Nat), (cn - k) < n_59 → (k ≤ cn) → ∀ (ls : Array Slot), lv_has ls 7 [(0, .ref hm), (1, .int (iI 2)), (2, .int (iI ((va : Nat) : Int))), (3, .int (iI ((act : Nat) : Int))), (4, .int (iI (bI (fsF (visb (omF au) er act) k < k ∧ co (fsF (visb (omF au) er act) k) = va)))), (5, .int (iI ((cnt (visb (omF au) er act) k : Nat) : Int))), (6, .int (iI ((k : Nat) : Int)))] → W p l e ({ frames := 2, cells := 0, slots := 0, locals := 46 }) s m ([.ref hm, .int (iI 2), .int (iI ((va : Nat) : Int)), .int (iI ((act : Nat) : Int))] : List Value).toArray below meth c s.heap [] 0 0 (MQ below (QO (bI (rch (visb (omF au) er act) co cn 2 va act = true))) ([.ref hm, .int (iI 2), .int (iI ((va : Nat) : Int)), .int (iI ((act : Nat) : Int))] : List Value).toArray s 0 0 (fun _ => False)) (F0 m 59 ls []) := by
        intro n_59
        induction n_59 with
        | zero => intro k h_meas; exact absurd h_meas (Nat.not_lt_zero _)
        | succ n_59 ih_59 =>
          intro k h_m59 ik ls hl
          have hcok := hco k
          have hcl := cnt_le (visb (omF au) er act) k
          refine lv_iload hx hb dX5_isReached_59 (lv_at hl 6 rfl) ?_
          refine lv_aload_n hx hb dX5_isReached_61 rfl (lv_at hl 0 rfl) ?_
          refine va_get (D := D) (ci := 5) (v := .ref m1) (C := RX5) (T := TX5) (N := 17) hx hb hts nX5_isReached_X5 hown hK hP 0 rfl rfl 0 (by decide) (hts _ kX5_isReached_7) (fun _ h9 => h9) rfl dX5_isReached_62 ?_
          refine r_iconst hx hb dX5_isReached_65 ?_
          refine r_ialdV (v := ((cn : Nat) : Int)) hx hb hK hP 1 0 rfl rfl (0) (rfl) (by decide) (by decide) (rfl) dX5_isReached_66 ?_
          refine r_icmp_ge (tgt := 124) hx hb (by first | omega | exact ⟨fun z => decide_eq_true z, fun z => of_decide_eq_true z⟩) (by first | omega | exact ⟨fun z => decide_eq_true z, fun z => of_decide_eq_true z⟩) dX5_isReached_67 (by decide) (fun c_3 => ?_) (fun c_3 => ?_)
          · skip
            obtain rfl : cn = k := by omega
            refine lv_iload_n hx hb dX5_isReached_124 rfl (lv_at hl 1 rfl) ?_
            refine r_iconst hx hb dX5_isReached_125 ?_
            refine r_icmp_ne (tgt := 142) hx hb (⟨by decide, by decide⟩) (⟨by decide, by decide⟩) dX5_isReached_126 (by decide) (fun c_4 => ?_) (fun c_4 => ?_)
            · skip
              refine lv_iload hx hb dX5_isReached_142 (lv_at hl 4 rfl) ?_
              exact r_zretO hx hb hr hlocks (bI_c (by first | omega | exact ⟨fun z => decide_eq_true z, fun z => of_decide_eq_true z⟩)) (bI_01 _) dX5_isReached_144
            · skip
              exact absurd c_4 (by decide)
          · skip
            refine lv_aload_n hx hb dX5_isReached_70 rfl (lv_at hl 0 rfl) ?_
            refine lv_iload hx hb dX5_isReached_71 (lv_at hl 6 rfl) ?_
            refine lv_iload_n hx hb dX5_isReached_73 rfl (lv_at hl 3 rfl) ?_
            refine callVO (n := 2) (As := [.int (iI ((k : Nat) : Int)), .int (iI ((act : Nat) : Int))]) (rest := []) (wc := [(hm, .inr (5, [.ref m1, .ref m2, .ref m3, .int (iI ((pa : Nat) : Int)), .int (iI ((pb : Nat) : Int)), .ref m4, .int (iI ((cp : Nat) : Int)), .ref m5, .int (iI ((ty : Nat) : Int)), .ref m6, .int (iI ((nx : Nat) : Int)), .int (iI (fi)), .int (iI (se)), .int (iI ((le : Nat) : Int)), .ref m7, .int (iI (bp)), .ref m8])), (m1, .inl (cI, 516, .inl (rI (sF cn en ac cu co au er ki bs))))]) S (m_isVisible l D cI cB cZ cO hm m1 m2 m3 m4 m5 m6 m7 m8 pa pb cp ty nx fi se le bp cn en ac cu co au er ki bs k act (by first | assumption | (first | omega | exact ⟨fun z => decide_eq_true z, fun z => of_decide_eq_true z⟩)) (by first | assumption | (first | omega | exact ⟨fun z => decide_eq_true z, fun z => of_decide_eq_true z⟩)) (by first | assumption | (first | omega | exact ⟨fun z => decide_eq_true z, fun z => of_decide_eq_true z⟩)) (by first | assumption | (first | omega | exact ⟨fun z => decide_eq_true z, fun z => of_decide_eq_true z⟩))) gX5_isReached_X5_isVisible rfl ⟨rfl, rfl⟩ (by decide +kernel) ⟨Nat.le_of_ble_eq_true rfl, Nat.le_of_ble_eq_true rfl⟩ hE hP [0, 1] rfl 5 0 rfl rfl rfl hl.1 rfl (Nat.le_of_ble_eq_true rfl) dX5_isReached_74 ⟨Nat.le_of_ble_eq_true rfl, Nat.le_of_ble_eq_true rfl⟩ ?_
            refine r_ifb_eq (tgt := 118) hx hb dX5_isReached_77 (by decide) (fun c_5 => ?_) (fun c_5 => ?_)
            · skip
              refine lv_iinc (v := iI ((k + 1 : Nat) : Int)) (lv' := [(6, .int (iI ((k + 1 : Nat) : Int))), (0, .ref hm), (1, .int (iI 2)), (2, .int (iI ((va : Nat) : Int))), (3, .int (iI ((act : Nat) : Int))), (4, .int (iI (bI (fsF (visb (omF au) er act) k < k ∧ co (fsF (visb (omF au) er act) k) = va)))), (5, .int (iI ((cnt (visb (omF au) er act) k : Nat) : Int)))]) hx hb dX5_isReached_118 hl (k := 6) rfl ((iI_add _ _).trans (ii (rfl))) (by decide) rfl (fun ls hl => ?_)
              refine lv_goto (tgt := 59) hx hb dX5_isReached_121 (by decide) ?_
              have hl : lv_has ls 7 [(6, .int (iI ((k + 1 : Nat) : Int))), (0, .ref hm), (1, .int (iI 2)), (2, .int (iI ((va : Nat) : Int))), (3, .int (iI ((act : Nat) : Int))), (4, .int (iI (bI (fsF (visb (omF au) er act) (k + 1) < (k + 1) ∧ co (fsF (visb (omF au) er act) (k + 1)) = va)))), (5, .int (iI ((cnt (visb (omF au) er act) k : Nat) : Int)))] := lv_chg hl 5 4 rfl (show ((bI (fsF (visb (omF au) er act) k < k ∧ co (fsF (visb (omF au) er act) k) = va)) : Int) = (bI (fsF (visb (omF au) er act) (k + 1) < (k + 1) ∧ co (fsF (visb (omF au) er act) (k + 1)) = va)) from by first | exact bI_c (hs2_f (vis_f (by assumption))) | exact bI_t1 ((hs2_n (hs2_c (by assumption))).mp (by assumption)) | exact bI_t1 ((hs2_0 (by omega) (vis_t (by assumption))).mpr (by omega)) | exact bI_f1 (fun z => (by assumption : ¬ (_ ∧ _)) ((hs2_n (by omega)).mpr z)) | exact bI_f1 (fun z => by by_cases h7 : cnt (visb (omF au) er act) k = 0; (have h8 := (hs2_0 h7 (vis_t (by assumption))).mp z; omega); exact absurd ((hs2_n h7).mpr z) (by assumption))) rfl
              have hl : lv_has ls 7 [(6, .int (iI ((k + 1 : Nat) : Int))), (0, .ref hm), (1, .int (iI 2)), (2, .int (iI ((va : Nat) : Int))), (3, .int (iI ((act : Nat) : Int))), (4, .int (iI (bI (fsF (visb (omF au) er act) (k + 1) < (k + 1) ∧ co (fsF (visb (omF au) er act) (k + 1)) = va)))), (5, .int (iI ((cnt (visb (omF au) er act) (k + 1) : Nat) : Int)))] := lv_chg hl 6 5 rfl (show (((cnt (visb (omF au) er act) k : Nat) : Int) : Int) = ((cnt (visb (omF au) er act) (k + 1) : Nat) : Int) from by first | (rw [cnt_vt (by assumption)]) | (rw [cnt_vf (by assumption)])) rfl
              exact ih_59 (k + 1) (by first | omega | exact ⟨fun z => decide_eq_true z, fun z => of_decide_eq_true z⟩) (by first | assumption | (first | omega | exact ⟨fun z => decide_eq_true z, fun z => of_decide_eq_true z⟩)) ls (lv_sub hl [1, 2, 3, 4, 5, 6, 0] rfl)
            · skip
              refine lv_iload hx hb dX5_isReached_80 (lv_at hl 4 rfl) ?_
              refine r_ifb_ne (tgt := 108) hx hb dX5_isReached_82 (by decide) (fun c_6 => ?_) (fun c_6 => ?_)
              · skip
                refine r_iconst hx hb dX5_isReached_108 ?_
                refine lv_goto (tgt := 113) hx hb dX5_isReached_109 (by decide) ?_
                refine lv_istore (lv' := [(4, .int (iI 1)), (0, .ref hm), (1, .int (iI 2)), (2, .int (iI ((va : Nat) : Int))), (3, .int (iI ((act : Nat) : Int))), (5, .int (iI ((cnt (visb (omF au) er act) k : Nat) : Int))), (6, .int (iI ((k : Nat) : Int)))]) hx hb dX5_isReached_113 hl (by decide) rfl (fun ls hl => ?_)
                refine lv_iinc (v := iI (((cnt (visb (omF au) er act) k) + 1 : Nat) : Int)) (lv' := [(5, .int (iI (((cnt (visb (omF au) er act) k) + 1 : Nat) : Int))), (4, .int (iI 1)), (0, .ref hm), (1, .int (iI 2)), (2, .int (iI ((va : Nat) : Int))), (3, .int (iI ((act : Nat) : Int))), (6, .int (iI ((k : Nat) : Int)))]) hx hb dX5_isReached_115 hl (k := 5) rfl ((iI_add _ _).trans (ii (rfl))) (by decide) rfl (fun ls hl => ?_)
                refine lv_iinc (v := iI ((k + 1 : Nat) : Int)) (lv' := [(6, .int (iI ((k + 1 : Nat) : Int))), (5, .int (iI (((cnt (visb (omF au) er act) k) + 1 : Nat) : Int))), (4, .int (iI 1)), (0, .ref hm), (1, .int (iI 2)), (2, .int (iI ((va : Nat) : Int))), (3, .int (iI ((act : Nat) : Int)))]) hx hb dX5_isReached_118 hl (k := 6) rfl ((iI_add _ _).trans (ii (rfl))) (by decide) rfl (fun ls hl => ?_)
                refine lv_goto (tgt := 59) hx hb dX5_isReached_121 (by decide) ?_
                have hl : lv_has ls 7 [(6, .int (iI ((k + 1 : Nat) : Int))), (5, .int (iI (((cnt (visb (omF au) er act) k) + 1 : Nat) : Int))), (4, .int (iI (bI (fsF (visb (omF au) er act) (k + 1) < (k + 1) ∧ co (fsF (visb (omF au) er act) (k + 1)) = va)))), (0, .ref hm), (1, .int (iI 2)), (2, .int (iI ((va : Nat) : Int))), (3, .int (iI ((act : Nat) : Int)))] := lv_chg hl 2 4 rfl (show (1 : Int) = (bI (fsF (visb (omF au) er act) (k + 1) < (k + 1) ∧ co (fsF (visb (omF au) er act) (k + 1)) = va)) from by first | exact bI_c (hs2_f (vis_f (by assumption))) | exact bI_t1 ((hs2_n (hs2_c (by assumption))).mp (by assumption)) | exact bI_t1 ((hs2_0 (by omega) (vis_t (by assumption))).mpr (by omega)) | exact bI_f1 (fun z => (by assumption : ¬ (_ ∧ _)) ((hs2_n (by omega)).mpr z)) | exact bI_f1 (fun z => by by_cases h7 : cnt (visb (omF au) er act) k = 0; (have h8 := (hs2_0 h7 (vis_t (by assumption))).mp z; omega); exact absurd ((hs2_n h7).mpr z) (by assumption))) rfl
                have hl : lv_has ls 7 [(6, .int (iI ((k + 1 : Nat) : Int))), (5, .int (iI ((cnt (visb (omF au) er act) (k + 1) : Nat) : Int))), (4, .int (iI (bI (fsF (visb (omF au) er act) (k + 1) < (k + 1) ∧ co (fsF (visb (omF au) er act) (k + 1)) = va)))), (0, .ref hm), (1, .int (iI 2)), (2, .int (iI ((va : Nat) : Int))), (3, .int (iI ((act : Nat) : Int)))] := lv_chg hl 1 5 rfl (show ((((cnt (visb (omF au) er act) k) + 1 : Nat) : Int) : Int) = ((cnt (visb (omF au) er act) (k + 1) : Nat) : Int) from by first | (rw [cnt_vt (by assumption)]) | (rw [cnt_vf (by assumption)])) rfl
                exact ih_59 (k + 1) (by first | omega | exact ⟨fun z => decide_eq_true z, fun z => of_decide_eq_true z⟩) (by first | assumption | (first | omega | exact ⟨fun z => decide_eq_true z, fun z => of_decide_eq_true z⟩)) ls (lv_sub hl [3, 4, 5, 6, 2, 1, 0] rfl)
              · skip
                refine lv_aload_n hx hb dX5_isReached_85 rfl (lv_at hl 0 rfl) ?_
                refine va_get (D := D) (ci := 5) (v := .ref m1) (C := RX5) (T := TX5) (N := 17) hx hb hts nX5_isReached_X5 hown hK hP 0 rfl rfl 0 (by decide) (hts _ kX5_isReached_7) (fun _ h9 => h9) rfl dX5_isReached_86 ?_
                refine r_iconst hx hb dX5_isReached_89 ?_
                refine lv_iload hx hb dX5_isReached_90 (lv_at hl 6 rfl) ?_
                refine r_iadd (v := ((4 + k : Nat) : Int)) hx hb (rfl) dX5_isReached_92 ?_
                refine r_ialdV (v := ((co k : Nat) : Int)) hx hb hK hP 1 0 rfl rfl (4 + k) (rfl) (by first | omega | exact ⟨fun z => decide_eq_true z, fun z => of_decide_eq_true z⟩) (by decide) (sF_co (by first | omega | exact ⟨fun z => decide_eq_true z, fun z => of_decide_eq_true z⟩)) dX5_isReached_93 ?_
                refine lv_iload_n hx hb dX5_isReached_94 rfl (lv_at hl 2 rfl) ?_
                refine r_icmp_ne (tgt := 112) hx hb (by first | omega | exact ⟨fun z => decide_eq_true z, fun z => of_decide_eq_true z⟩) (by first | omega | exact ⟨fun z => decide_eq_true z, fun z => of_decide_eq_true z⟩) dX5_isReached_95 (by decide) (fun c_7 => ?_) (fun c_7 => ?_)
                · skip
                  refine r_iconst hx hb dX5_isReached_112 ?_
                  refine lv_istore (lv' := [(4, .int (iI 0)), (0, .ref hm), (1, .int (iI 2)), (2, .int (iI ((va : Nat) : Int))), (3, .int (iI ((act : Nat) : Int))), (5, .int (iI ((cnt (visb (omF au) er act) k : Nat) : Int))), (6, .int (iI ((k : Nat) : Int)))]) hx hb dX5_isReached_113 hl (by decide) rfl (fun ls hl => ?_)
                  refine lv_iinc (v := iI (((cnt (visb (omF au) er act) k) + 1 : Nat) : Int)) (lv' := [(5, .int (iI (((cnt (visb (omF au) er act) k) + 1 : Nat) : Int))), (4, .int (iI 0)), (0, .ref hm), (1, .int (iI 2)), (2, .int (iI ((va : Nat) : Int))), (3, .int (iI ((act : Nat) : Int))), (6, .int (iI ((k : Nat) : Int)))]) hx hb dX5_isReached_115 hl (k := 5) rfl ((iI_add _ _).trans (ii (rfl))) (by decide) rfl (fun ls hl => ?_)
                  refine lv_iinc (v := iI ((k + 1 : Nat) : Int)) (lv' := [(6, .int (iI ((k + 1 : Nat) : Int))), (5, .int (iI (((cnt (visb (omF au) er act) k) + 1 : Nat) : Int))), (4, .int (iI 0)), (0, .ref hm), (1, .int (iI 2)), (2, .int (iI ((va : Nat) : Int))), (3, .int (iI ((act : Nat) : Int)))]) hx hb dX5_isReached_118 hl (k := 6) rfl ((iI_add _ _).trans (ii (rfl))) (by decide) rfl (fun ls hl => ?_)
                  refine lv_goto (tgt := 59) hx hb dX5_isReached_121 (by decide) ?_
                  have hl : lv_has ls 7 [(6, .int (iI ((k + 1 : Nat) : Int))), (5, .int (iI (((cnt (visb (omF au) er act) k) + 1 : Nat) : Int))), (4, .int (iI (bI (fsF (visb (omF au) er act) (k + 1) < (k + 1) ∧ co (fsF (visb (omF au) er act) (k + 1)) = va)))), (0, .ref hm), (1, .int (iI 2)), (2, .int (iI ((va : Nat) : Int))), (3, .int (iI ((act : Nat) : Int)))] := lv_chg hl 2 4 rfl (show (0 : Int) = (bI (fsF (visb (omF au) er act) (k + 1) < (k + 1) ∧ co (fsF (visb (omF au) er act) (k + 1)) = va)) from by first | exact bI_c (hs2_f (vis_f (by assumption))) | exact bI_t1 ((hs2_n (hs2_c (by assumption))).mp (by assumption)) | exact bI_t1 ((hs2_0 (by omega) (vis_t (by assumption))).mpr (by omega)) | exact bI_f1 (fun z => (by assumption : ¬ (_ ∧ _)) ((hs2_n (by omega)).mpr z)) | exact bI_f1 (fun z => by by_cases h7 : cnt (visb (omF au) er act) k = 0; (have h8 := (hs2_0 h7 (vis_t (by assumption))).mp z; omega); exact absurd ((hs2_n h7).mpr z) (by assumption))) rfl
                  have hl : lv_has ls 7 [(6, .int (iI ((k + 1 : Nat) : Int))), (5, .int (iI ((cnt (visb (omF au) er act) (k + 1) : Nat) : Int))), (4, .int (iI (bI (fsF (visb (omF au) er act) (k + 1) < (k + 1) ∧ co (fsF (visb (omF au) er act) (k + 1)) = va)))), (0, .ref hm), (1, .int (iI 2)), (2, .int (iI ((va : Nat) : Int))), (3, .int (iI ((act : Nat) : Int)))] := lv_chg hl 1 5 rfl (show ((((cnt (visb (omF au) er act) k) + 1 : Nat) : Int) : Int) = ((cnt (visb (omF au) er act) (k + 1) : Nat) : Int) from by first | (rw [cnt_vt (by assumption)]) | (rw [cnt_vf (by assumption)])) rfl
                  exact ih_59 (k + 1) (by first | omega | exact ⟨fun z => decide_eq_true z, fun z => of_decide_eq_true z⟩) (by first | assumption | (first | omega | exact ⟨fun z => decide_eq_true z, fun z => of_decide_eq_true z⟩)) ls (lv_sub hl [3, 4, 5, 6, 2, 1, 0] rfl)
                · skip
                  refine lv_iload_n hx hb dX5_isReached_98 rfl (lv_at hl 1 rfl) ?_
                  refine r_iconst hx hb dX5_isReached_99 ?_
                  refine r_icmp_eq (tgt := 108) hx hb (⟨by decide, by decide⟩) (⟨by decide, by decide⟩) dX5_isReached_100 (by decide) (fun c_8 => ?_) (fun c_8 => ?_)
                  · skip
                    exact absurd c_8 (by decide)
                  · skip
                    refine lv_iload hx hb dX5_isReached_103 (lv_at hl 5 rfl) ?_
                    refine r_if_ne (tgt := 112) hx hb (by first | omega | exact ⟨fun z => decide_eq_true z, fun z => of_decide_eq_true z⟩) dX5_isReached_105 (by decide) (fun c_9 => ?_) (fun c_9 => ?_)
                    · skip
                      refine r_iconst hx hb dX5_isReached_112 ?_
                      refine lv_istore (lv' := [(4, .int (iI 0)), (0, .ref hm), (1, .int (iI 2)), (2, .int (iI ((va : Nat) : Int))), (3, .int (iI ((act : Nat) : Int))), (5, .int (iI ((cnt (visb (omF au) er act) k : Nat) : Int))), (6, .int (iI ((k : Nat) : Int)))]) hx hb dX5_isReached_113 hl (by decide) rfl (fun ls hl => ?_)
                      refine lv_iinc (v := iI (((cnt (visb (omF au) er act) k) + 1 : Nat) : Int)) (lv' := [(5, .int (iI (((cnt (visb (omF au) er act) k) + 1 : Nat) : Int))), (4, .int (iI 0)), (0, .ref hm), (1, .int (iI 2)), (2, .int (iI ((va : Nat) : Int))), (3, .int (iI ((act : Nat) : Int))), (6, .int (iI ((k : Nat) : Int)))]) hx hb dX5_isReached_115 hl (k := 5) rfl ((iI_add _ _).trans (ii (rfl))) (by decide) rfl (fun ls hl => ?_)
                      refine lv_iinc (v := iI ((k + 1 : Nat) : Int)) (lv' := [(6, .int (iI ((k + 1 : Nat) : Int))), (5, .int (iI (((cnt (visb (omF au) er act) k) + 1 : Nat) : Int))), (4, .int (iI 0)), (0, .ref hm), (1, .int (iI 2)), (2, .int (iI ((va : Nat) : Int))), (3, .int (iI ((act : Nat) : Int)))]) hx hb dX5_isReached_118 hl (k := 6) rfl ((iI_add _ _).trans (ii (rfl))) (by decide) rfl (fun ls hl => ?_)
                      refine lv_goto (tgt := 59) hx hb dX5_isReached_121 (by decide) ?_
                      have hl : lv_has ls 7 [(6, .int (iI ((k + 1 : Nat) : Int))), (5, .int (iI (((cnt (visb (omF au) er act) k) + 1 : Nat) : Int))), (4, .int (iI (bI (fsF (visb (omF au) er act) (k + 1) < (k + 1) ∧ co (fsF (visb (omF au) er act) (k + 1)) = va)))), (0, .ref hm), (1, .int (iI 2)), (2, .int (iI ((va : Nat) : Int))), (3, .int (iI ((act : Nat) : Int)))] := lv_chg hl 2 4 rfl (show (0 : Int) = (bI (fsF (visb (omF au) er act) (k + 1) < (k + 1) ∧ co (fsF (visb (omF au) er act) (k + 1)) = va)) from by first | exact bI_c (hs2_f (vis_f (by assumption))) | exact bI_t1 ((hs2_n (hs2_c (by assumption))).mp (by assumption)) | exact bI_t1 ((hs2_0 (by omega) (vis_t (by assumption))).mpr (by omega)) | exact bI_f1 (fun z => (by assumption : ¬ (_ ∧ _)) ((hs2_n (by omega)).mpr z)) | exact bI_f1 (fun z => by by_cases h7 : cnt (visb (omF au) er act) k = 0; (have h8 := (hs2_0 h7 (vis_t (by assumption))).mp z; omega); exact absurd ((hs2_n h7).mpr z) (by assumption))) rfl
                      have hl : lv_has ls 7 [(6, .int (iI ((k + 1 : Nat) : Int))), (5, .int (iI ((cnt (visb (omF au) er act) (k + 1) : Nat) : Int))), (4, .int (iI (bI (fsF (visb (omF au) er act) (k + 1) < (k + 1) ∧ co (fsF (visb (omF au) er act) (k + 1)) = va)))), (0, .ref hm), (1, .int (iI 2)), (2, .int (iI ((va : Nat) : Int))), (3, .int (iI ((act : Nat) : Int)))] := lv_chg hl 1 5 rfl (show ((((cnt (visb (omF au) er act) k) + 1 : Nat) : Int) : Int) = ((cnt (visb (omF au) er act) (k + 1) : Nat) : Int) from by first | (rw [cnt_vt (by assumption)]) | (rw [cnt_vf (by assumption)])) rfl
                      exact ih_59 (k + 1) (by first | omega | exact ⟨fun z => decide_eq_true z, fun z => of_decide_eq_true z⟩) (by first | assumption | (first | omega | exact ⟨fun z => decide_eq_true z, fun z => of_decide_eq_true z⟩)) ls (lv_sub hl [3, 4, 5, 6, 2, 1, 0] rfl)
                    · skip
                      refine r_iconst hx hb dX5_isReached_108 ?_
                      refine lv_goto (tgt := 113) hx hb dX5_isReached_109 (by decide) ?_
                      refine lv_istore (lv' := [(4, .int (iI 1)), (0, .ref hm), (1, .int (iI 2)), (2, .int (iI ((va : Nat) : Int))), (3, .int (iI ((act : Nat) : Int))), (5, .int (iI ((cnt (visb (omF au) er act) k : Nat) : Int))), (6, .int (iI ((k : Nat) : Int)))]) hx hb dX5_isReached_113 hl (by decide) rfl (fun ls hl => ?_)
                      refine lv_iinc (v := iI (((cnt (visb (omF au) er act) k) + 1 : Nat) : Int)) (lv' := [(5, .int (iI (((cnt (visb (omF au) er act) k) + 1 : Nat) : Int))), (4, .int (iI 1)), (0, .ref hm), (1, .int (iI 2)), (2, .int (iI ((va : Nat) : Int))), (3, .int (iI ((act : Nat) : Int))), (6, .int (iI ((k : Nat) : Int)))]) hx hb dX5_isReached_115 hl (k := 5) rfl ((iI_add _ _).trans (ii (rfl))) (by decide) rfl (fun ls hl => ?_)
                      refine lv_iinc (v := iI ((k + 1 : Nat) : Int)) (lv' := [(6, .int (iI ((k + 1 : Nat) : Int))), (5, .int (iI (((cnt (visb (omF au) er act) k) + 1 : Nat) : Int))), (4, .int (iI 1)), (0, .ref hm), (1, .int (iI 2)), (2, .int (iI ((va : Nat) : Int))), (3, .int (iI ((act : Nat) : Int)))]) hx hb dX5_isReached_118 hl (k := 6) rfl ((iI_add _ _).trans (ii (rfl))) (by decide) rfl (fun ls hl => ?_)
                      refine lv_goto (tgt := 59) hx hb dX5_isReached_121 (by decide) ?_
                      have hl : lv_has ls 7 [(6, .int (iI ((k + 1 : Nat) : Int))), (5, .int (iI (((cnt (visb (omF au) er act) k) + 1 : Nat) : Int))), (4, .int (iI (bI (fsF (visb (omF au) er act) (k + 1) < (k + 1) ∧ co (fsF (visb (omF au) er act) (k + 1)) = va)))), (0, .ref hm), (1, .int (iI 2)), (2, .int (iI ((va : Nat) : Int))), (3, .int (iI ((act : Nat) : Int)))] := lv_chg hl 2 4 rfl (show (1 : Int) = (bI (fsF (visb (omF au) er act) (k + 1) < (k + 1) ∧ co (fsF (visb (omF au) er act) (k + 1)) = va)) from by first | exact bI_c (hs2_f (vis_f (by assumption))) | exact bI_t1 ((hs2_n (hs2_c (by assumption))).mp (by assumption)) | exact bI_t1 ((hs2_0 (by omega) (vis_t (by assumption))).mpr (by omega)) | exact bI_f1 (fun z => (by assumption : ¬ (_ ∧ _)) ((hs2_n (by omega)).mpr z)) | exact bI_f1 (fun z => by by_cases h7 : cnt (visb (omF au) er act) k = 0; (have h8 := (hs2_0 h7 (vis_t (by assumption))).mp z; omega); exact absurd ((hs2_n h7).mpr z) (by assumption))) rfl
                      have hl : lv_has ls 7 [(6, .int (iI ((k + 1 : Nat) : Int))), (5, .int (iI ((cnt (visb (omF au) er act) (k + 1) : Nat) : Int))), (4, .int (iI (bI (fsF (visb (omF au) er act) (k + 1) < (k + 1) ∧ co (fsF (visb (omF au) er act) (k + 1)) = va)))), (0, .ref hm), (1, .int (iI 2)), (2, .int (iI ((va : Nat) : Int))), (3, .int (iI ((act : Nat) : Int)))] := lv_chg hl 1 5 rfl (show ((((cnt (visb (omF au) er act) k) + 1 : Nat) : Int) : Int) = ((cnt (visb (omF au) er act) (k + 1) : Nat) : Int) from by first | (rw [cnt_vt (by assumption)]) | (rw [cnt_vf (by assumption)])) rfl
                      exact ih_59 (k + 1) (by first | omega | exact ⟨fun z => decide_eq_true z, fun z => of_decide_eq_true z⟩) (by first | assumption | (first | omega | exact ⟨fun z => decide_eq_true z, fun z => of_decide_eq_true z⟩)) ls (lv_sub hl [3, 4, 5, 6, 2, 1, 0] rfl)
      have hl : lv_has ls 7 [(6, .int (iI 0)), (5, .int (iI 0)), (4, .int (iI (bI (fsF (visb (omF au) er act) 0 < 0 ∧ co (fsF (visb (omF au) er act) 0) = va)))), (0, .ref hm), (1, .int (iI 2)), (2, .int (iI ((va : Nat) : Int))), (3, .int (iI ((act : Nat) : Int)))] := lv_chg hl 2 4 rfl (show (0 : Int) = (bI (fsF (visb (omF au) er act) 0 < 0 ∧ co (fsF (visb (omF au) er act) 0) = va)) from by exact bI_f1 (fun h => absurd h.1 (Nat.lt_irrefl 0))) rfl
      have hl : lv_has ls 7 [(6, .int (iI 0)), (5, .int (iI ((cnt (visb (omF au) er act) 0 : Nat) : Int))), (4, .int (iI (bI (fsF (visb (omF au) er act) 0 < 0 ∧ co (fsF (visb (omF au) er act) 0) = va)))), (0, .ref hm), (1, .int (iI 2)), (2, .int (iI ((va : Nat) : Int))), (3, .int (iI ((act : Nat) : Int)))] := lv_chg hl 1 5 rfl (show (0 : Int) = ((cnt (visb (omF au) er act) 0 : Nat) : Int) from by rfl) rfl
      exact loop_59 ((cn - 0) + 1) 0 (by first | omega | exact ⟨fun z => decide_eq_true z, fun z => of_decide_eq_true z⟩) (by first | assumption | (first | omega | exact ⟨fun z => decide_eq_true z, fun z => of_decide_eq_true z⟩)) ls (lv_sub hl [3, 4, 5, 6, 2, 1, 0] rfl)
    · skip
      exact absurd c_2 (by decide)
  · skip
    exact absurd c_1 (by decide)
