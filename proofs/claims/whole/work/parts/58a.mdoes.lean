theorem kX5_does_152 : Cond.fieldLink RX5 152 "PricedUndoModel" "first" "I" ∈ wsX5_does := List.mem_of_getElem? (i := 1) (by decide +kernel)
theorem nX5_does_X5 : ∀ w ∈ u_ws RX5 TX5 17, w ∈ wsX5_does := in_lay 79 (by decide +kernel)
theorem kX5_does_158 : Cond.fieldLink RX5 158 "PricedUndoModel" "second" "I" ∈ wsX5_does := List.mem_of_getElem? (i := 2) (by decide +kernel)
set_option maxHeartbeats 4000000 in
set_option maxRecDepth 100000 in
theorem m_does_ins_no (l : Launch) (D : va_G) (cI cB cZ cO : ClassId) (hm : Nat) (m1 : Nat) (m2 : Nat) (m3 : Nat) (m4 : Nat) (m5 : Nat) (m6 : Nat) (m7 : Nat) (m8 : Nat) (pa : Nat) (pb : Nat) (cp : Nat) (ty : Nat) (nx : Nat) (le : Nat) (bp : Int) (cn : Nat) (en : Nat) (ac : Nat) (cu : Nat) (co : Nat → Nat) (au : Nat → Int) (er : Nat → Nat) (ki : Nat → Nat) (bs : Nat → Int) (fi1 : Nat) (se1 : Nat) (hcn : cn ≤ 160) (hac : ac < 65536) (hau : ∀ k, -1 ≤ au k ∧ au k < 16) (her : ∀ k, er k < 65536) (hen : en ≤ 16) (hfi : fi1 < 65536) (hse : se1 < 65536) (hbad : ¬ (fi1 ≤ cnt (visb (omF au) er ac) cn ∧ en < 16 ∧ cnt (visb (omF au) er ac) cn + se1 ≤ 60 ∧ cn + se1 ≤ 160)) : Met l yX5_does wsX5_does ({ frames := 4, cells := 0, slots := 0, locals := 87 }) (va_Pc [.ref hm, .int (iI 43)] (RO D cI cB cZ cO [(hm, .inr (5, [.ref m1, .ref m2, .ref m3, .int (iI ((pa : Nat) : Int)), .int (iI ((pb : Nat) : Int)), .ref m4, .int (iI ((cp : Nat) : Int)), .ref m5, .int (iI ((ty : Nat) : Int)), .ref m6, .int (iI ((nx : Nat) : Int)), .int (iI ((fi1 : Nat) : Int)), .int (iI ((se1 : Nat) : Int)), .int (iI ((le : Nat) : Int)), .ref m7, .int (iI (bp)), .ref m8])), (m1, .inl (cI, 516, .inl (rI (sF cn en ac cu co au er ki bs))))])) (QO 0) 0 0 (fun _ => False) := by
  refine startO (cc := cX5_does) (maxL := 4) (ret := (some .boolean)) (by decide) rfl (Nat.le_of_ble_eq_true rfl) ?_
  intro p e s m below meth c S hr hlocks hE hP ls hl
  have hx := S.1
  have hb := S.2.1
  have hown := S.2.2.2.1
  have hts := S.2.2.2.2
  have hK := hE.1
  have hl : lv_has ls 4 [(0, .ref hm), (1, .int (iI 43))] := hl
  have hcl := cnt_le (visb (omF au) er ac) cn
  refine lv_iload_n hx hb dX5_does_0 rfl (lv_at hl 1 rfl) ?_
  refine r_bipush hx hb dX5_does_1 (by decide) ?_
  refine r_icmp_ne (tgt := 83) hx hb (⟨by decide, by decide⟩) (⟨by decide, by decide⟩) dX5_does_3 (by decide) (fun c_1 => ?_) (fun c_1 => ?_)
  · skip
    exact absurd c_1 (by decide)
  · skip
    refine lv_aload_n hx hb dX5_does_6 rfl (lv_at hl 0 rfl) ?_
    refine va_get (D := D) (ci := 5) (v := .int (iI ((fi1 : Nat) : Int))) (C := RX5) (T := TX5) (N := 17) hx hb hts nX5_does_X5 hown hK hP 0 rfl rfl 11 (by decide) (hts _ kX5_does_152) (fun _ h9 => h9) rfl dX5_does_7 ?_
    refine r_iconst hx hb dX5_does_10 ?_
    refine lv_aload_n hx hb dX5_does_11 rfl (lv_at hl 0 rfl) ?_
    refine callVO (n := 0) (As := []) (rest := [.int (iI 0), .int (iI ((fi1 : Nat) : Int))]) (wc := [(hm, .inr (5, [.ref m1, .ref m2, .ref m3, .int (iI ((pa : Nat) : Int)), .int (iI ((pb : Nat) : Int)), .ref m4, .int (iI ((cp : Nat) : Int)), .ref m5, .int (iI ((ty : Nat) : Int)), .ref m6, .int (iI ((nx : Nat) : Int)), .int (iI ((fi1 : Nat) : Int)), .int (iI ((se1 : Nat) : Int)), .int (iI ((le : Nat) : Int)), .ref m7, .int (iI (bp)), .ref m8])), (m1, .inl (cI, 516, .inl (rI (sF cn en ac cu co au er ki bs))))]) S (m_length l D cI cB cZ cO hm m1 m2 m3 m4 m5 m6 m7 m8 pa pb cp ty nx (((fi1 : Nat) : Int)) (((se1 : Nat) : Int)) le bp cn en ac cu co au er ki bs (by first | assumption | (omega)) (by first | assumption | (omega)) (by first | assumption | (omega)) (by first | assumption | (omega))) gX5_does_X5_length rfl ⟨rfl, rfl⟩ (by decide +kernel) ⟨Nat.le_of_ble_eq_true rfl, Nat.le_of_ble_eq_true rfl⟩ hE hP [0, 1] rfl 5 0 rfl rfl rfl hl.1 rfl (Nat.le_of_ble_eq_true rfl) dX5_does_12 ⟨Nat.le_of_ble_eq_true rfl, Nat.le_of_ble_eq_true rfl⟩ ?_
    rw [show (0 : Int) = (0) from by omega]
    refine callSO (n := 3) (As := [.int (iI ((fi1 : Nat) : Int)), .int (iI (0)), .int (iI ((cnt (visb (omF au) er ac) cn : Nat) : Int))]) (rest := []) (wc := []) S (m_in l D cI cB cZ cO (((fi1 : Nat) : Int)) 0 (((cnt (visb (omF au) er ac) cn : Nat) : Int)) (by first | assumption | (omega)) (by first | assumption | (omega)) (by first | assumption | (omega))) gX5_does_X5_in rfl ⟨rfl, rfl⟩ (by decide +kernel) ⟨Nat.le_of_ble_eq_true rfl, Nat.le_of_ble_eq_true rfl⟩ hE hP [] rfl rfl hl.1 rfl (Nat.le_of_ble_eq_true rfl) dX5_does_15 ⟨Nat.le_of_ble_eq_true rfl, Nat.le_of_ble_eq_true rfl⟩ ?_
    refine r_ifb_eq (tgt := 32) hx hb dX5_does_18 (by decide) (fun c_2 => ?_) (fun c_2 => ?_)
    · skip
      refine r_iconst hx hb dX5_does_32 ?_
      exact r_zretO hx hb hr hlocks (rfl) (Or.inl rfl) dX5_does_33
    · skip
      refine lv_aload_n hx hb dX5_does_21 rfl (lv_at hl 0 rfl) ?_
      refine lv_aload_n hx hb dX5_does_22 rfl (lv_at hl 0 rfl) ?_
      refine va_get (D := D) (ci := 5) (v := .int (iI ((se1 : Nat) : Int))) (C := RX5) (T := TX5) (N := 17) hx hb hts nX5_does_X5 hown hK hP 0 rfl rfl 12 (by decide) (hts _ kX5_does_158) (fun _ h9 => h9) rfl dX5_does_23 ?_
      refine callVO (n := 1) (As := [.int (iI ((se1 : Nat) : Int))]) (rest := []) (wc := [(hm, .inr (5, [.ref m1, .ref m2, .ref m3, .int (iI ((pa : Nat) : Int)), .int (iI ((pb : Nat) : Int)), .ref m4, .int (iI ((cp : Nat) : Int)), .ref m5, .int (iI ((ty : Nat) : Int)), .ref m6, .int (iI ((nx : Nat) : Int)), .int (iI ((fi1 : Nat) : Int)), .int (iI ((se1 : Nat) : Int)), .int (iI ((le : Nat) : Int)), .ref m7, .int (iI (bp)), .ref m8])), (m1, .inl (cI, 516, .inl (rI (sF cn en ac cu co au er ki bs))))]) S (m_hasRoom l D cI cB cZ cO hm m1 m2 m3 m4 m5 m6 m7 m8 pa pb cp ty nx (((fi1 : Nat) : Int)) (((se1 : Nat) : Int)) le bp cn en ac cu co au er ki bs se1 (by first | assumption | (omega)) (by first | assumption | (omega)) (by first | assumption | (omega)) (by first | assumption | (omega)) (by first | assumption | (omega)) (by first | assumption | (omega))) gX5_does_X5_hasRoom rfl ⟨rfl, rfl⟩ (by decide +kernel) ⟨Nat.le_of_ble_eq_true rfl, Nat.le_of_ble_eq_true rfl⟩ hE hP [0, 1] rfl 5 0 rfl rfl rfl hl.1 rfl (Nat.le_of_ble_eq_true rfl) dX5_does_26 ⟨Nat.le_of_ble_eq_true rfl, Nat.le_of_ble_eq_true rfl⟩ ?_
      refine r_ifb_ne (tgt := 34) hx hb dX5_does_29 (by decide) (fun c_3 => ?_) (fun c_3 => ?_)
      · skip
        exfalso; omega
      · skip
        refine r_iconst hx hb dX5_does_32 ?_
        exact r_zretO hx hb hr hlocks (rfl) (Or.inl rfl) dX5_does_33

theorem kX5_does_31 : Cond.fieldLink RX5 31 "PricedUndoModel" "script" "[B" ∈ wsX5_does := List.mem_of_getElem? (i := 3) (by decide +kernel)
theorem kX5_does_161 : Cond.fieldLink RX5 161 "PricedUndoModel" "letters" "I" ∈ wsX5_does := List.mem_of_getElem? (i := 4) (by decide +kernel)
set_option maxHeartbeats 4000000 in
set_option maxRecDepth 100000 in
theorem m_does_ins_S (l : Launch) (D : va_G) (cI cB cZ cO : ClassId) (sz : Nat) (hm : Nat) (m1 : Nat) (m2 : Nat) (m3 : Nat) (m4 : Nat) (m5 : Nat) (m6 : Nat) (m7 : Nat) (m8 : Nat) (pa : Nat) (pb : Nat) (cp : Nat) (ty : Nat) (nx : Nat) (le : Nat) (bp : Int) (cn : Nat) (en : Nat) (ac : Nat) (cu : Nat) (co : Nat → Nat) (au : Nat → Int) (er : Nat → Nat) (ki : Nat → Nat) (bs : Nat → Int) (sc : Nat → Nat) (se1 : Nat) (g1 : Nat) (an : Nat) (hcn : cn ≤ 160) (hac : ac < 65536) (hau : ∀ k, -1 ≤ au k ∧ au k < 16) (her : ∀ k, er k < 65536) (hen : en ≤ 16) (hbs : ∀ k, -1 ≤ bs k ∧ bs k < 16) (hsc : ∀ k, sc k < 256) (hle : le + se1 ≤ 80) (hlet : ∀ j, j < se1 → sc (le + j) < 128) (hroom : en < 16 ∧ cnt (visb (omF au) er ac) cn + se1 ≤ 60 ∧ cn + se1 ≤ 160) (han : atv (visb (omF au) er ac) cn g1 = (an : Int)) (hanl : an < cn) (hg1 : g1 < cnt (visb (omF au) er ac) cn) : Met l yX5_does wsX5_does ({ frames := 4, cells := 0, slots := 0, locals := 87 }) (va_Pc [.ref hm, .int (iI 43)] (RW D cI cB cZ cO sz [(hm, .inr (5, [.ref m1, .ref m2, .ref m3, .int (iI ((pa : Nat) : Int)), .int (iI ((pb : Nat) : Int)), .ref m4, .int (iI ((cp : Nat) : Int)), .ref m5, .int (iI ((ty : Nat) : Int)), .ref m6, .int (iI ((nx : Nat) : Int)), .int (iI ((g1 + 1 : Nat) : Int)), .int (iI ((se1 : Nat) : Int)), .int (iI ((le : Nat) : Int)), .ref m7, .int (iI (bp)), .ref m8])), (m1, .inl (cI, 516, .inl (rI (sF cn en ac cu co au er ki bs)))), (m5, .inl (cB, 80, .inl (rI (fun j => sby (sc j)))))])) (QX D (S := Unit) (fun u => some (.int (iI 1))) (fun u => True) (fun u => [(hm, .inr (5, [.ref m1, .ref m2, .ref m3, .int (iI ((pa : Nat) : Int)), .int (iI ((pb : Nat) : Int)), .ref m4, .int (iI ((cp : Nat) : Int)), .ref m5, .int (iI ((ty : Nat) : Int)), .ref m6, .int (iI ((nx : Nat) : Int)), .int (iI ((g1 + 1 : Nat) : Int)), .int (iI ((se1 : Nat) : Int)), .int (iI ((le : Nat) : Int)), .ref m7, .int (iI (bp)), .ref m8])), (m1, .inl (cI, 516, .inl (rI (sF (cn + se1) (en + 1) (ac ||| 2 ^ en) cu (inR (shF co (an + 1) se1 cn) (an + 1) (fun j => sc (le + j)) se1) (inI (shI au (an + 1) se1 cn) (an + 1) (fun _ => ((en : Nat) : Int)) se1) (inR (shF er (an + 1) se1 cn) (an + 1) (fun _ => 0) se1) (up ki en (0)) (up bs en (au an)))))), (m5, .inl (cB, 80, .inl (rI (fun j => sby (sc j)))))]) (va_A [(hm, .inr (5, [.ref m1, .ref m2, .ref m3, .int (iI ((pa : Nat) : Int)), .int (iI ((pb : Nat) : Int)), .ref m4, .int (iI ((cp : Nat) : Int)), .ref m5, .int (iI ((ty : Nat) : Int)), .ref m6, .int (iI ((nx : Nat) : Int)), .int (iI ((g1 + 1 : Nat) : Int)), .int (iI ((se1 : Nat) : Int)), .int (iI ((le : Nat) : Int)), .ref m7, .int (iI (bp)), .ref m8])), (m1, .inl (cI, 516, .inl (rI (sF cn en ac cu co au er ki bs)))), (m5, .inl (cB, 80, .inl (rI (fun j => sby (sc j)))))] sz)) 0 0 (va_A [(hm, .inr (5, [.ref m1, .ref m2, .ref m3, .int (iI ((pa : Nat) : Int)), .int (iI ((pb : Nat) : Int)), .ref m4, .int (iI ((cp : Nat) : Int)), .ref m5, .int (iI ((ty : Nat) : Int)), .ref m6, .int (iI ((nx : Nat) : Int)), .int (iI ((g1 + 1 : Nat) : Int)), .int (iI ((se1 : Nat) : Int)), .int (iI ((le : Nat) : Int)), .ref m7, .int (iI (bp)), .ref m8])), (m1, .inl (cI, 516, .inl (rI (sF cn en ac cu co au er ki bs)))), (m5, .inl (cB, 80, .inl (rI (fun j => sby (sc j)))))] sz) := by
  refine startW (cc := cX5_does) (maxL := 4) (ret := (some .boolean)) (by decide) rfl (Nat.le_of_ble_eq_true rfl) ?_
  intro p e s m below meth c S hr hlocks hE hP A hD hA hS ls hl
  have hx := S.1
  have hb := S.2.1
  have hown := S.2.2.2.1
  have hts := S.2.2.2.2
  have hK := hE.1
  have hl : lv_has ls 4 [(0, .ref hm), (1, .int (iI 43))] := hl
  have hcl := cnt_le (visb (omF au) er ac) cn
  refine lv_iload_n hx hb dX5_does_0 rfl (lv_at hl 1 rfl) ?_
  refine r_bipush hx hb dX5_does_1 (by decide) ?_
  refine r_icmp_ne (tgt := 83) hx hb (⟨by decide, by decide⟩) (⟨by decide, by decide⟩) dX5_does_3 (by decide) (fun c_1 => ?_) (fun c_1 => ?_)
  · skip
    exact absurd c_1 (by decide)
  · skip
    refine lv_aload_n hx hb dX5_does_6 rfl (lv_at hl 0 rfl) ?_
    refine va_get (D := D) (ci := 5) (v := .int (iI ((g1 + 1 : Nat) : Int))) (C := RX5) (T := TX5) (N := 17) hx hb hts nX5_does_X5 hown hK hP 0 rfl rfl 11 (by decide) (hts _ kX5_does_152) (fun _ h9 => h9) rfl dX5_does_7 ?_
    refine r_iconst hx hb dX5_does_10 ?_
    refine lv_aload_n hx hb dX5_does_11 rfl (lv_at hl 0 rfl) ?_
    refine callVO (n := 0) (As := []) (rest := [.int (iI 0), .int (iI ((g1 + 1 : Nat) : Int))]) (wc := [(hm, .inr (5, [.ref m1, .ref m2, .ref m3, .int (iI ((pa : Nat) : Int)), .int (iI ((pb : Nat) : Int)), .ref m4, .int (iI ((cp : Nat) : Int)), .ref m5, .int (iI ((ty : Nat) : Int)), .ref m6, .int (iI ((nx : Nat) : Int)), .int (iI ((g1 + 1 : Nat) : Int)), .int (iI ((se1 : Nat) : Int)), .int (iI ((le : Nat) : Int)), .ref m7, .int (iI (bp)), .ref m8])), (m1, .inl (cI, 516, .inl (rI (sF cn en ac cu co au er ki bs))))]) S (m_length l D cI cB cZ cO hm m1 m2 m3 m4 m5 m6 m7 m8 pa pb cp ty nx (((g1 + 1 : Nat) : Int)) (((se1 : Nat) : Int)) le bp cn en ac cu co au er ki bs (by first | assumption | (first | omega | assumption)) (by first | assumption | (first | omega | assumption)) (by first | assumption | (first | omega | assumption)) (by first | assumption | (first | omega | assumption))) gX5_does_X5_length rfl ⟨rfl, rfl⟩ (by decide +kernel) ⟨Nat.le_of_ble_eq_true rfl, Nat.le_of_ble_eq_true rfl⟩ hE hP [0, 1] rfl 5 0 rfl rfl rfl hl.1 rfl (Nat.le_of_ble_eq_true rfl) dX5_does_12 ⟨Nat.le_of_ble_eq_true rfl, Nat.le_of_ble_eq_true rfl⟩ ?_
    rw [show (0 : Int) = (0) from by omega]
    refine callSO (n := 3) (As := [.int (iI ((g1 + 1 : Nat) : Int)), .int (iI (0)), .int (iI ((cnt (visb (omF au) er ac) cn : Nat) : Int))]) (rest := []) (wc := []) S (m_in l D cI cB cZ cO (((g1 + 1 : Nat) : Int)) 0 (((cnt (visb (omF au) er ac) cn : Nat) : Int)) (by first | assumption | (first | omega | assumption)) (by first | assumption | (first | omega | assumption)) (by first | assumption | (first | omega | assumption))) gX5_does_X5_in rfl ⟨rfl, rfl⟩ (by decide +kernel) ⟨Nat.le_of_ble_eq_true rfl, Nat.le_of_ble_eq_true rfl⟩ hE hP [] rfl rfl hl.1 rfl (Nat.le_of_ble_eq_true rfl) dX5_does_15 ⟨Nat.le_of_ble_eq_true rfl, Nat.le_of_ble_eq_true rfl⟩ ?_
    refine r_ifb_eq (tgt := 32) hx hb dX5_does_18 (by decide) (fun c_2 => ?_) (fun c_2 => ?_)
    · skip
      exfalso; omega
    · skip
      refine lv_aload_n hx hb dX5_does_21 rfl (lv_at hl 0 rfl) ?_
      refine lv_aload_n hx hb dX5_does_22 rfl (lv_at hl 0 rfl) ?_
      refine va_get (D := D) (ci := 5) (v := .int (iI ((se1 : Nat) : Int))) (C := RX5) (T := TX5) (N := 17) hx hb hts nX5_does_X5 hown hK hP 0 rfl rfl 12 (by decide) (hts _ kX5_does_158) (fun _ h9 => h9) rfl dX5_does_23 ?_
      refine callVO (n := 1) (As := [.int (iI ((se1 : Nat) : Int))]) (rest := []) (wc := [(hm, .inr (5, [.ref m1, .ref m2, .ref m3, .int (iI ((pa : Nat) : Int)), .int (iI ((pb : Nat) : Int)), .ref m4, .int (iI ((cp : Nat) : Int)), .ref m5, .int (iI ((ty : Nat) : Int)), .ref m6, .int (iI ((nx : Nat) : Int)), .int (iI ((g1 + 1 : Nat) : Int)), .int (iI ((se1 : Nat) : Int)), .int (iI ((le : Nat) : Int)), .ref m7, .int (iI (bp)), .ref m8])), (m1, .inl (cI, 516, .inl (rI (sF cn en ac cu co au er ki bs))))]) S (m_hasRoom l D cI cB cZ cO hm m1 m2 m3 m4 m5 m6 m7 m8 pa pb cp ty nx (((g1 + 1 : Nat) : Int)) (((se1 : Nat) : Int)) le bp cn en ac cu co au er ki bs se1 (by first | assumption | (first | omega | assumption)) (by first | assumption | (first | omega | assumption)) (by first | assumption | (first | omega | assumption)) (by first | assumption | (first | omega | assumption)) (by first | assumption | (first | omega | assumption)) (by first | assumption | (first | omega | assumption))) gX5_does_X5_hasRoom rfl ⟨rfl, rfl⟩ (by decide +kernel) ⟨Nat.le_of_ble_eq_true rfl, Nat.le_of_ble_eq_true rfl⟩ hE hP [0, 1] rfl 5 0 rfl rfl rfl hl.1 rfl (Nat.le_of_ble_eq_true rfl) dX5_does_26 ⟨Nat.le_of_ble_eq_true rfl, Nat.le_of_ble_eq_true rfl⟩ ?_
      refine r_ifb_ne (tgt := 34) hx hb dX5_does_29 (by decide) (fun c_3 => ?_) (fun c_3 => ?_)
      · skip
        refine lv_aload_n hx hb dX5_does_34 rfl (lv_at hl 0 rfl) ?_
        refine lv_aload_n hx hb dX5_does_35 rfl (lv_at hl 0 rfl) ?_
        refine va_get (D := D) (ci := 5) (v := .int (iI ((g1 + 1 : Nat) : Int))) (C := RX5) (T := TX5) (N := 17) hx hb hts nX5_does_X5 hown hK hP 0 rfl rfl 11 (by decide) (hts _ kX5_does_152) (fun _ h9 => h9) rfl dX5_does_36 ?_
        refine lv_aload_n hx hb dX5_does_39 rfl (lv_at hl 0 rfl) ?_
        refine va_get (D := D) (ci := 5) (v := .int (iI ((se1 : Nat) : Int))) (C := RX5) (T := TX5) (N := 17) hx hb hts nX5_does_X5 hown hK hP 0 rfl rfl 12 (by decide) (hts _ kX5_does_158) (fun _ h9 => h9) rfl dX5_does_40 ?_
        refine callVX (n := 2) (As := [.int (iI ((g1 + 1 : Nat) : Int)), .int (iI ((se1 : Nat) : Int))]) (rest := []) (wc := [(hm, .inr (5, [.ref m1, .ref m2, .ref m3, .int (iI ((pa : Nat) : Int)), .int (iI ((pb : Nat) : Int)), .ref m4, .int (iI ((cp : Nat) : Int)), .ref m5, .int (iI ((ty : Nat) : Int)), .ref m6, .int (iI ((nx : Nat) : Int)), .int (iI ((g1 + 1 : Nat) : Int)), .int (iI ((se1 : Nat) : Int)), .int (iI ((le : Nat) : Int)), .ref m7, .int (iI (bp)), .ref m8])), (m1, .inl (cI, 516, .inl (rI (sF cn en ac cu co au er ki bs))))]) (wr := [(m5, .inl (cB, 80, .inl (rI (fun j => sby (sc j)))))]) (ws2 := fun u => [(hm, .inr (5, [.ref m1, .ref m2, .ref m3, .int (iI ((pa : Nat) : Int)), .int (iI ((pb : Nat) : Int)), .ref m4, .int (iI ((cp : Nat) : Int)), .ref m5, .int (iI ((ty : Nat) : Int)), .ref m6, .int (iI ((nx : Nat) : Int)), .int (iI ((g1 + 1 : Nat) : Int)), .int (iI ((se1 : Nat) : Int)), .int (iI ((le : Nat) : Int)), .ref m7, .int (iI (bp)), .ref m8])), (m1, .inl (cI, 516, .inl (rI (sF (cn + se1) (en + 1) (ac ||| 2 ^ en) cu (shF co (an + 1) se1 cn) (shI au (an + 1) se1 cn) (shF er (an + 1) se1 cn) (up ki en (0)) (up bs en (au an)))))), (m5, .inl (cB, 80, .inl (rI (fun j => sby (sc j)))))]) S hE hP hD hS hA (m_opens_S l D cI cB cZ cO s.heap.size hm m1 m2 m3 m4 m5 m6 m7 m8 pa pb cp ty nx (((g1 + 1 : Nat) : Int)) (((se1 : Nat) : Int)) le bp cn en ac cu co au er ki bs g1 an se1 (by first | assumption | (first | omega | assumption)) (by first | assumption | (first | omega | assumption)) (by first | assumption | (first | omega | assumption)) (by first | assumption | (first | omega | assumption)) (by first | assumption | (first | omega | assumption)) (by first | assumption | (first | omega | assumption)) (by first | assumption | (first | omega | assumption)) (by first | assumption | (first | omega | assumption)) (by first | assumption | (first | omega | assumption)) (by first | assumption | (first | omega | assumption))) gX5_does_X5_opens rfl ⟨rfl, rfl⟩ (by decide +kernel) ⟨Nat.le_of_ble_eq_true rfl, Nat.le_of_ble_eq_true rfl⟩ [0, 1] [2] [1, 2, 0] rfl (by decide) rfl (by decide) (by decide) (by decide) (fun u => rfl) 5 0 rfl rfl rfl hl.1 rfl (Nat.le_of_ble_eq_true rfl) dX5_does_43 ⟨Nat.le_of_ble_eq_true rfl, Nat.le_of_ble_eq_true rfl⟩ (fun u u43p H locs hP hD hS => ?_)
        have hP : va_P D vwCl [(hm, .inr (5, [.ref m1, .ref m2, .ref m3, .int (iI ((pa : Nat) : Int)), .int (iI ((pb : Nat) : Int)), .ref m4, .int (iI ((cp : Nat) : Int)), .ref m5, .int (iI ((ty : Nat) : Int)), .ref m6, .int (iI ((nx : Nat) : Int)), .int (iI ((g1 + 1 : Nat) : Int)), .int (iI ((se1 : Nat) : Int)), .int (iI ((le : Nat) : Int)), .ref m7, .int (iI (bp)), .ref m8])), (m1, .inl (cI, 516, .inl (rI (sF (cn + se1) (en + 1) (ac ||| 2 ^ en) cu (shF co (an + 1) se1 cn) (shI au (an + 1) se1 cn) (shF er (an + 1) se1 cn) (up ki en (0)) (up bs en (au an)))))), (m5, .inl (cB, 80, .inl (rI (fun j => sby (sc j)))))] H := hP
        have hD : va_D A [(hm, .inr (5, [.ref m1, .ref m2, .ref m3, .int (iI ((pa : Nat) : Int)), .int (iI ((pb : Nat) : Int)), .ref m4, .int (iI ((cp : Nat) : Int)), .ref m5, .int (iI ((ty : Nat) : Int)), .ref m6, .int (iI ((nx : Nat) : Int)), .int (iI ((g1 + 1 : Nat) : Int)), .int (iI ((se1 : Nat) : Int)), .int (iI ((le : Nat) : Int)), .ref m7, .int (iI (bp)), .ref m8])), (m1, .inl (cI, 516, .inl (rI (sF (cn + se1) (en + 1) (ac ||| 2 ^ en) cu (shF co (an + 1) se1 cn) (shI au (an + 1) se1 cn) (shF er (an + 1) se1 cn) (up ki en (0)) (up bs en (au an)))))), (m5, .inl (cB, 80, .inl (rI (fun j => sby (sc j)))))] := hD
        refine W.eq (g2 := F0 m 46 ls [.int (iI ((an + 1 : Nat) : Int))]) rfl ?_
        refine lv_istore_n (lv' := [(2, .int (iI ((an + 1 : Nat) : Int))), (0, .ref hm), (1, .int (iI 43))]) hx hb dX5_does_46 rfl hl (by decide) rfl (fun ls hl => ?_)
        refine r_iconst hx hb dX5_does_47 ?_
        refine lv_istore_n (lv' := [(3, .int (iI 0)), (2, .int (iI ((an + 1 : Nat) : Int))), (0, .ref hm), (1, .int (iI 43))]) hx hb dX5_does_48 rfl hl (by decide) rfl (fun ls hl => ?_)
        have loop_49 : ∀ (n_49 : Nat) (d : Nat), (se1 - d) < n_49 → (d ≤ se1) → ∀ (H : Heap) (locs : List Loc), va_P D vwCl [(hm, .inr (5, [.ref m1, .ref m2, .ref m3, .int (iI ((pa : Nat) : Int)), .int (iI ((pb : Nat) : Int)), .ref m4, .int (iI ((cp : Nat) : Int)), .ref m5, .int (iI ((ty : Nat) : Int)), .ref m6, .int (iI ((nx : Nat) : Int)), .int (iI ((g1 + 1 : Nat) : Int)), .int (iI ((se1 : Nat) : Int)), .int (iI ((le : Nat) : Int)), .ref m7, .int (iI (bp)), .ref m8])), (m1, .inl (cI, 516, .inl (rI (sF (cn + se1) (en + 1) (ac ||| 2 ^ en) cu (inR (shF co (an + 1) se1 cn) (an + 1) (fun j => sc (le + j)) d) (inI (shI au (an + 1) se1 cn) (an + 1) (fun _ => ((en : Nat) : Int)) d) (inR (shF er (an + 1) se1 cn) (an + 1) (fun _ => 0) d) (up ki en (0)) (up bs en (au an)))))), (m5, .inl (cB, 80, .inl (rI (fun j => sby (sc j)))))] H → va_D A [(hm, .inr (5, [.ref m1, .ref m2, .ref m3, .int (iI ((pa : Nat) : Int)), .int (iI ((pb : Nat) : Int)), .ref m4, .int (iI ((cp : Nat) : Int)), .ref m5, .int (iI ((ty : Nat) : Int)), .ref m6, .int (iI ((nx : Nat) : Int)), .int (iI ((g1 + 1 : Nat) : Int)), .int (iI ((se1 : Nat) : Int)), .int (iI ((le : Nat) : Int)), .ref m7, .int (iI (bp)), .ref m8])), (m1, .inl (cI, 516, .inl (rI (sF (cn + se1) (en + 1) (ac ||| 2 ^ en) cu (inR (shF co (an + 1) se1 cn) (an + 1) (fun j => sc (le + j)) d) (inI (shI au (an + 1) se1 cn) (an + 1) (fun _ => ((en : Nat) : Int)) d) (inR (shF er (an + 1) se1 cn) (an + 1) (fun _ => 0) d) (up ki en (0)) (up bs en (au an)))))), (m5, .inl (cB, 80, .inl (rI (fun j => sby (sc j)))))] → va_S A s.heap H locs → ∀ (ls : Array Slot), lv_has ls 4 [(0, .ref hm), (1, .int (iI 43)), (2, .int (iI ((an + 1 : Nat) : Int))), (3, .int (iI ((d : Nat) : Int)))] → W p l e ({ frames := 4, cells := 0, slots := 0, locals := 87 }) s m ([.ref hm, .int (iI 43)] : List Value).toArray below meth c H locs 0 0 (MQ below (QX D (S := Unit) (fun u => some (.int (iI 1))) (fun u => True) (fun u => [(hm, .inr (5, [.ref m1, .ref m2, .ref m3, .int (iI ((pa : Nat) : Int)), .int (iI ((pb : Nat) : Int)), .ref m4, .int (iI ((cp : Nat) : Int)), .ref m5, .int (iI ((ty : Nat) : Int)), .ref m6, .int (iI ((nx : Nat) : Int)), .int (iI ((g1 + 1 : Nat) : Int)), .int (iI ((se1 : Nat) : Int)), .int (iI ((le : Nat) : Int)), .ref m7, .int (iI (bp)), .ref m8])), (m1, .inl (cI, 516, .inl (rI (sF (cn + se1) (en + 1) (ac ||| 2 ^ en) cu (inR (shF co (an + 1) se1 cn) (an + 1) (fun j => sc (le + j)) se1) (inI (shI au (an + 1) se1 cn) (an + 1) (fun _ => ((en : Nat) : Int)) se1) (inR (shF er (an + 1) se1 cn) (an + 1) (fun _ => 0) se1) (up ki en (0)) (up bs en (au an)))))), (m5, .inl (cB, 80, .inl (rI (fun j => sby (sc j)))))]) A) ([.ref hm, .int (iI 43)] : List Value).toArray s 0 0 A) (F0 m 49 ls []) := by
          intro n_49
          induction n_49 with
          | zero => intro d h_meas; exact absurd h_meas (Nat.not_lt_zero _)
          | succ n_49 ih_49 =>
            intro d h_m49 id H locs hP hD hS ls hl
            refine lv_iload_n hx hb dX5_does_49 rfl (lv_at hl 3 rfl) ?_
            refine lv_aload_n hx hb dX5_does_50 rfl (lv_at hl 0 rfl) ?_
            refine va_get (D := D) (ci := 5) (v := .int (iI ((se1 : Nat) : Int))) (C := RX5) (T := TX5) (N := 17) hx hb hts nX5_does_X5 hown hK hP 0 rfl rfl 12 (by decide) (hts _ kX5_does_158) (fun _ h9 => h9) rfl dX5_does_51 ?_
            refine r_icmp_ge (tgt := 81) hx hb (by omega) (by omega) dX5_does_54 (by decide) (fun c_4 => ?_) (fun c_4 => ?_)
            · skip
              obtain rfl : se1 = d := by omega
              refine r_iconst hx hb dX5_does_81 ?_
              exact r_zretX hx hb hr hlocks hP hD hS () (rfl) (trivial) rfl (Or.inr rfl) dX5_does_82
            · skip
              refine lv_aload_n hx hb dX5_does_57 rfl (lv_at hl 0 rfl) ?_
              refine lv_iload_n hx hb dX5_does_58 rfl (lv_at hl 2 rfl) ?_
              refine lv_iload_n hx hb dX5_does_59 rfl (lv_at hl 3 rfl) ?_
              refine r_iadd (v := (((an + 1) + d : Nat) : Int)) hx hb (rfl) dX5_does_60 ?_
              refine lv_aload_n hx hb dX5_does_61 rfl (lv_at hl 0 rfl) ?_
              refine va_get (D := D) (ci := 5) (v := .ref m5) (C := RX5) (T := TX5) (N := 17) hx hb hts nX5_does_X5 hown hK hP 0 rfl rfl 7 (by decide) (hts _ kX5_does_31) (fun _ h9 => h9) rfl dX5_does_62 ?_
              refine lv_aload_n hx hb dX5_does_65 rfl (lv_at hl 0 rfl) ?_
              refine va_get (D := D) (ci := 5) (v := .int (iI ((le : Nat) : Int))) (C := RX5) (T := TX5) (N := 17) hx hb hts nX5_does_X5 hown hK hP 0 rfl rfl 13 (by decide) (hts _ kX5_does_161) (fun _ h9 => h9) rfl dX5_does_66 ?_
              refine lv_iload_n hx hb dX5_does_69 rfl (lv_at hl 3 rfl) ?_
              refine r_iadd (v := ((le + d : Nat) : Int)) hx hb (rfl) dX5_does_70 ?_
              refine r_bald hx hb hK hP 2 1 rfl rfl (le + d) (rfl) (by omega) (by decide) dX5_does_71 ?_
              have hsb9 : sby (sc (le + d)) = ((sc (le + d) : Nat) : Int) := if_pos (hlet d (by omega))
              first | rw [hsb9] | simp only [hsb9]
              refine callVX (n := 2) (As := [.int (iI (((an + 1) + d : Nat) : Int)), .int (iI ((sc (le + d) : Nat) : Int))]) (rest := []) (wc := [(hm, .inr (5, [.ref m1, .ref m2, .ref m3, .int (iI ((pa : Nat) : Int)), .int (iI ((pb : Nat) : Int)), .ref m4, .int (iI ((cp : Nat) : Int)), .ref m5, .int (iI ((ty : Nat) : Int)), .ref m6, .int (iI ((nx : Nat) : Int)), .int (iI ((g1 + 1 : Nat) : Int)), .int (iI ((se1 : Nat) : Int)), .int (iI ((le : Nat) : Int)), .ref m7, .int (iI (bp)), .ref m8])), (m1, .inl (cI, 516, .inl (rI (sF ((cn + se1)) ((en + 1)) ((ac ||| 2 ^ en)) cu ((inR (shF co (an + 1) se1 cn) (an + 1) (fun j => sc (le + j)) d)) ((inI (shI au (an + 1) se1 cn) (an + 1) (fun _ => ((en : Nat) : Int)) d)) ((inR (shF er (an + 1) se1 cn) (an + 1) (fun _ => 0) d)) ((up ki en (0))) ((up bs en (au an)))))))]) (wr := [(m5, .inl (cB, 80, .inl (rI (fun j => sby (sc j)))))]) (ws2 := fun u => [(hm, .inr (5, [.ref m1, .ref m2, .ref m3, .int (iI ((pa : Nat) : Int)), .int (iI ((pb : Nat) : Int)), .ref m4, .int (iI ((cp : Nat) : Int)), .ref m5, .int (iI ((ty : Nat) : Int)), .ref m6, .int (iI ((nx : Nat) : Int)), .int (iI ((g1 + 1 : Nat) : Int)), .int (iI ((se1 : Nat) : Int)), .int (iI ((le : Nat) : Int)), .ref m7, .int (iI (bp)), .ref m8])), (m1, .inl (cI, 516, .inl (rI (sF ((cn + se1)) ((en + 1)) ((ac ||| 2 ^ en)) cu (up (inR (shF co (an + 1) se1 cn) (an + 1) (fun j => sc (le + j)) d) ((an + 1) + d) ((sc (le + d)))) (up (inI (shI au (an + 1) se1 cn) (an + 1) (fun _ => ((en : Nat) : Int)) d) ((an + 1) + d) ((((en + 1) : Nat) : Int) - 1)) (up (inR (shF er (an + 1) se1 cn) (an + 1) (fun _ => 0) d) ((an + 1) + d) (0)) ((up ki en (0))) ((up bs en (au an))))))), (m5, .inl (cB, 80, .inl (rI (fun j => sby (sc j)))))]) S hE hP hD hS hA (m_lays l D cI cB cZ cO H.size hm m1 m2 m3 m4 m5 m6 m7 m8 pa pb cp ty nx (((g1 + 1 : Nat) : Int)) (((se1 : Nat) : Int)) le bp (cn + se1) (en + 1) (ac ||| 2 ^ en) cu (inR (shF co (an + 1) se1 cn) (an + 1) (fun j => sc (le + j)) d) (inI (shI au (an + 1) se1 cn) (an + 1) (fun _ => ((en : Nat) : Int)) d) (inR (shF er (an + 1) se1 cn) (an + 1) (fun _ => 0) d) (up ki en (0)) (up bs en (au an)) ((an + 1) + d) (sc (le + d)) (by first | assumption | (first | omega | assumption))) gX5_does_X5_lays rfl ⟨rfl, rfl⟩ (by decide +kernel) ⟨Nat.le_of_ble_eq_true rfl, Nat.le_of_ble_eq_true rfl⟩ [0, 1] [2] [1, 2, 0] rfl (by decide) rfl (by decide) (by decide) (by decide) (fun u => rfl) 5 0 rfl rfl rfl hl.1 rfl (Nat.le_of_ble_eq_true rfl) dX5_does_72 ⟨Nat.le_of_ble_eq_true rfl, Nat.le_of_ble_eq_true rfl⟩ (fun u u72p H locs hP hD hS => ?_)
              have hP : va_P D vwCl [(hm, .inr (5, [.ref m1, .ref m2, .ref m3, .int (iI ((pa : Nat) : Int)), .int (iI ((pb : Nat) : Int)), .ref m4, .int (iI ((cp : Nat) : Int)), .ref m5, .int (iI ((ty : Nat) : Int)), .ref m6, .int (iI ((nx : Nat) : Int)), .int (iI ((g1 + 1 : Nat) : Int)), .int (iI ((se1 : Nat) : Int)), .int (iI ((le : Nat) : Int)), .ref m7, .int (iI (bp)), .ref m8])), (m1, .inl (cI, 516, .inl (rI (sF ((cn + se1)) ((en + 1)) ((ac ||| 2 ^ en)) cu (up (inR (shF co (an + 1) se1 cn) (an + 1) (fun j => sc (le + j)) d) ((an + 1) + d) ((sc (le + d)))) (up (inI (shI au (an + 1) se1 cn) (an + 1) (fun _ => ((en : Nat) : Int)) d) ((an + 1) + d) ((((en + 1) : Nat) : Int) - 1)) (up (inR (shF er (an + 1) se1 cn) (an + 1) (fun _ => 0) d) ((an + 1) + d) (0)) ((up ki en (0))) ((up bs en (au an))))))), (m5, .inl (cB, 80, .inl (rI (fun j => sby (sc j)))))] H := hP
              have hD : va_D A [(hm, .inr (5, [.ref m1, .ref m2, .ref m3, .int (iI ((pa : Nat) : Int)), .int (iI ((pb : Nat) : Int)), .ref m4, .int (iI ((cp : Nat) : Int)), .ref m5, .int (iI ((ty : Nat) : Int)), .ref m6, .int (iI ((nx : Nat) : Int)), .int (iI ((g1 + 1 : Nat) : Int)), .int (iI ((se1 : Nat) : Int)), .int (iI ((le : Nat) : Int)), .ref m7, .int (iI (bp)), .ref m8])), (m1, .inl (cI, 516, .inl (rI (sF ((cn + se1)) ((en + 1)) ((ac ||| 2 ^ en)) cu (up (inR (shF co (an + 1) se1 cn) (an + 1) (fun j => sc (le + j)) d) ((an + 1) + d) ((sc (le + d)))) (up (inI (shI au (an + 1) se1 cn) (an + 1) (fun _ => ((en : Nat) : Int)) d) ((an + 1) + d) ((((en + 1) : Nat) : Int) - 1)) (up (inR (shF er (an + 1) se1 cn) (an + 1) (fun _ => 0) d) ((an + 1) + d) (0)) ((up ki en (0))) ((up bs en (au an))))))), (m5, .inl (cB, 80, .inl (rI (fun j => sby (sc j)))))] := hD
              refine W.eq (g2 := F0 m 75 ls []) rfl ?_
              refine lv_iinc (v := iI ((d + 1 : Nat) : Int)) (lv' := [(3, .int (iI ((d + 1 : Nat) : Int))), (0, .ref hm), (1, .int (iI 43)), (2, .int (iI ((an + 1 : Nat) : Int)))]) hx hb dX5_does_75 hl (k := 3) rfl ((iI_add _ _).trans (ii (rfl))) (by decide) rfl (fun ls hl => ?_)
              refine lv_goto (tgt := 49) hx hb dX5_does_78 (by decide) ?_
              have hww : ([(hm, .inr (5, [.ref m1, .ref m2, .ref m3, .int (iI ((pa : Nat) : Int)), .int (iI ((pb : Nat) : Int)), .ref m4, .int (iI ((cp : Nat) : Int)), .ref m5, .int (iI ((ty : Nat) : Int)), .ref m6, .int (iI ((nx : Nat) : Int)), .int (iI ((g1 + 1 : Nat) : Int)), .int (iI ((se1 : Nat) : Int)), .int (iI ((le : Nat) : Int)), .ref m7, .int (iI (bp)), .ref m8])), (m1, .inl (cI, 516, .inl (rI (sF ((cn + se1)) ((en + 1)) ((ac ||| 2 ^ en)) cu (up (inR (shF co (an + 1) se1 cn) (an + 1) (fun j => sc (le + j)) d) ((an + 1) + d) ((sc (le + d)))) (up (inI (shI au (an + 1) se1 cn) (an + 1) (fun _ => ((en : Nat) : Int)) d) ((an + 1) + d) ((((en + 1) : Nat) : Int) - 1)) (up (inR (shF er (an + 1) se1 cn) (an + 1) (fun _ => 0) d) ((an + 1) + d) (0)) ((up ki en (0))) ((up bs en (au an))))))), (m5, .inl (cB, 80, .inl (rI (fun j => sby (sc j)))))] : va_W) = [(hm, .inr (5, [.ref m1, .ref m2, .ref m3, .int (iI ((pa : Nat) : Int)), .int (iI ((pb : Nat) : Int)), .ref m4, .int (iI ((cp : Nat) : Int)), .ref m5, .int (iI ((ty : Nat) : Int)), .ref m6, .int (iI ((nx : Nat) : Int)), .int (iI ((g1 + 1 : Nat) : Int)), .int (iI ((se1 : Nat) : Int)), .int (iI ((le : Nat) : Int)), .ref m7, .int (iI (bp)), .ref m8])), (m1, .inl (cI, 516, .inl (rI (sF (cn + se1) (en + 1) (ac ||| 2 ^ en) cu (inR (shF co (an + 1) se1 cn) (an + 1) (fun j => sc (le + j)) (d + 1)) (inI (shI au (an + 1) se1 cn) (an + 1) (fun _ => ((en : Nat) : Int)) (d + 1)) (inR (shF er (an + 1) se1 cn) (an + 1) (fun _ => 0) (d + 1)) (up ki en (0)) (up bs en (au an)))))), (m5, .inl (cB, 80, .inl (rI (fun j => sby (sc j)))))] := by rw [inR_s rfl, inI_s (g := fun _ => ((en : Nat) : Int)) (d := d) (v := ((en + 1 : Nat) : Int) - 1) (show ((en : Nat) : Int) = ((en + 1 : Nat) : Int) - 1 by omega), inR_s rfl]
              rw [hww] at hP hD
              exact ih_49 (d + 1) (by omega) (by first | assumption | (omega)) H locs hP hD hS ls (lv_sub hl [1, 2, 3, 0] rfl)
        have hww : ([(hm, .inr (5, [.ref m1, .ref m2, .ref m3, .int (iI ((pa : Nat) : Int)), .int (iI ((pb : Nat) : Int)), .ref m4, .int (iI ((cp : Nat) : Int)), .ref m5, .int (iI ((ty : Nat) : Int)), .ref m6, .int (iI ((nx : Nat) : Int)), .int (iI ((g1 + 1 : Nat) : Int)), .int (iI ((se1 : Nat) : Int)), .int (iI ((le : Nat) : Int)), .ref m7, .int (iI (bp)), .ref m8])), (m1, .inl (cI, 516, .inl (rI (sF (cn + se1) (en + 1) (ac ||| 2 ^ en) cu (shF co (an + 1) se1 cn) (shI au (an + 1) se1 cn) (shF er (an + 1) se1 cn) (up ki en (0)) (up bs en (au an)))))), (m5, .inl (cB, 80, .inl (rI (fun j => sby (sc j)))))] : va_W) = [(hm, .inr (5, [.ref m1, .ref m2, .ref m3, .int (iI ((pa : Nat) : Int)), .int (iI ((pb : Nat) : Int)), .ref m4, .int (iI ((cp : Nat) : Int)), .ref m5, .int (iI ((ty : Nat) : Int)), .ref m6, .int (iI ((nx : Nat) : Int)), .int (iI ((g1 + 1 : Nat) : Int)), .int (iI ((se1 : Nat) : Int)), .int (iI ((le : Nat) : Int)), .ref m7, .int (iI (bp)), .ref m8])), (m1, .inl (cI, 516, .inl (rI (sF (cn + se1) (en + 1) (ac ||| 2 ^ en) cu (inR (shF co (an + 1) se1 cn) (an + 1) (fun j => sc (le + j)) 0) (inI (shI au (an + 1) se1 cn) (an + 1) (fun _ => ((en : Nat) : Int)) 0) (inR (shF er (an + 1) se1 cn) (an + 1) (fun _ => 0) 0) (up ki en (0)) (up bs en (au an)))))), (m5, .inl (cB, 80, .inl (rI (fun j => sby (sc j)))))] := by rw [inR_0, inI_0, inR_0]
        rw [hww] at hP hD
        exact loop_49 ((se1 - 0) + 1) 0 (by omega) (by first | assumption | (omega)) H locs hP hD hS ls (lv_sub hl [2, 3, 1, 0] rfl)
      · skip
        exfalso; omega

set_option maxHeartbeats 4000000 in
set_option maxRecDepth 100000 in
theorem m_does_ins_0 (l : Launch) (D : va_G) (cI cB cZ cO : ClassId) (sz : Nat) (hm : Nat) (m1 : Nat) (m2 : Nat) (m3 : Nat) (m4 : Nat) (m5 : Nat) (m6 : Nat) (m7 : Nat) (m8 : Nat) (pa : Nat) (pb : Nat) (cp : Nat) (ty : Nat) (nx : Nat) (le : Nat) (bp : Int) (cn : Nat) (en : Nat) (ac : Nat) (cu : Nat) (co : Nat → Nat) (au : Nat → Int) (er : Nat → Nat) (ki : Nat → Nat) (bs : Nat → Int) (sc : Nat → Nat) (se1 : Nat) (hcn : cn ≤ 160) (hac : ac < 65536) (hau : ∀ k, -1 ≤ au k ∧ au k < 16) (her : ∀ k, er k < 65536) (hen : en ≤ 16) (hbs : ∀ k, -1 ≤ bs k ∧ bs k < 16) (hsc : ∀ k, sc k < 256) (hle : le + se1 ≤ 80) (hlet : ∀ j, j < se1 → sc (le + j) < 128) (hroom : en < 16 ∧ cnt (visb (omF au) er ac) cn + se1 ≤ 60 ∧ cn + se1 ≤ 160) : Met l yX5_does wsX5_does ({ frames := 4, cells := 0, slots := 0, locals := 87 }) (va_Pc [.ref hm, .int (iI 43)] (RW D cI cB cZ cO sz [(hm, .inr (5, [.ref m1, .ref m2, .ref m3, .int (iI ((pa : Nat) : Int)), .int (iI ((pb : Nat) : Int)), .ref m4, .int (iI ((cp : Nat) : Int)), .ref m5, .int (iI ((ty : Nat) : Int)), .ref m6, .int (iI ((nx : Nat) : Int)), .int (iI 0), .int (iI ((se1 : Nat) : Int)), .int (iI ((le : Nat) : Int)), .ref m7, .int (iI (bp)), .ref m8])), (m1, .inl (cI, 516, .inl (rI (sF cn en ac cu co au er ki bs)))), (m5, .inl (cB, 80, .inl (rI (fun j => sby (sc j)))))])) (QX D (S := Unit) (fun u => some (.int (iI 1))) (fun u => True) (fun u => [(hm, .inr (5, [.ref m1, .ref m2, .ref m3, .int (iI ((pa : Nat) : Int)), .int (iI ((pb : Nat) : Int)), .ref m4, .int (iI ((cp : Nat) : Int)), .ref m5, .int (iI ((ty : Nat) : Int)), .ref m6, .int (iI ((nx : Nat) : Int)), .int (iI 0), .int (iI ((se1 : Nat) : Int)), .int (iI ((le : Nat) : Int)), .ref m7, .int (iI (bp)), .ref m8])), (m1, .inl (cI, 516, .inl (rI (sF (cn + se1) (en + 1) (ac ||| 2 ^ en) cu (inR (shF co 0 se1 cn) 0 (fun j => sc (le + j)) se1) (inI (shI au 0 se1 cn) 0 (fun _ => ((en : Nat) : Int)) se1) (inR (shF er 0 se1 cn) 0 (fun _ => 0) se1) (up ki en (0)) (up bs en (-1)))))), (m5, .inl (cB, 80, .inl (rI (fun j => sby (sc j)))))]) (va_A [(hm, .inr (5, [.ref m1, .ref m2, .ref m3, .int (iI ((pa : Nat) : Int)), .int (iI ((pb : Nat) : Int)), .ref m4, .int (iI ((cp : Nat) : Int)), .ref m5, .int (iI ((ty : Nat) : Int)), .ref m6, .int (iI ((nx : Nat) : Int)), .int (iI 0), .int (iI ((se1 : Nat) : Int)), .int (iI ((le : Nat) : Int)), .ref m7, .int (iI (bp)), .ref m8])), (m1, .inl (cI, 516, .inl (rI (sF cn en ac cu co au er ki bs)))), (m5, .inl (cB, 80, .inl (rI (fun j => sby (sc j)))))] sz)) 0 0 (va_A [(hm, .inr (5, [.ref m1, .ref m2, .ref m3, .int (iI ((pa : Nat) : Int)), .int (iI ((pb : Nat) : Int)), .ref m4, .int (iI ((cp : Nat) : Int)), .ref m5, .int (iI ((ty : Nat) : Int)), .ref m6, .int (iI ((nx : Nat) : Int)), .int (iI 0), .int (iI ((se1 : Nat) : Int)), .int (iI ((le : Nat) : Int)), .ref m7, .int (iI (bp)), .ref m8])), (m1, .inl (cI, 516, .inl (rI (sF cn en ac cu co au er ki bs)))), (m5, .inl (cB, 80, .inl (rI (fun j => sby (sc j)))))] sz) := by
  refine startW (cc := cX5_does) (maxL := 4) (ret := (some .boolean)) (by decide) rfl (Nat.le_of_ble_eq_true rfl) ?_
  intro p e s m below meth c S hr hlocks hE hP A hD hA hS ls hl
  have hx := S.1
  have hb := S.2.1
  have hown := S.2.2.2.1
  have hts := S.2.2.2.2
  have hK := hE.1
  have hl : lv_has ls 4 [(0, .ref hm), (1, .int (iI 43))] := hl
  have hcl := cnt_le (visb (omF au) er ac) cn
  refine lv_iload_n hx hb dX5_does_0 rfl (lv_at hl 1 rfl) ?_
  refine r_bipush hx hb dX5_does_1 (by decide) ?_
  refine r_icmp_ne (tgt := 83) hx hb (⟨by decide, by decide⟩) (⟨by decide, by decide⟩) dX5_does_3 (by decide) (fun c_1 => ?_) (fun c_1 => ?_)
  · skip
    exact absurd c_1 (by decide)
  · skip
    refine lv_aload_n hx hb dX5_does_6 rfl (lv_at hl 0 rfl) ?_
    refine va_get (D := D) (ci := 5) (v := .int (iI 0)) (C := RX5) (T := TX5) (N := 17) hx hb hts nX5_does_X5 hown hK hP 0 rfl rfl 11 (by decide) (hts _ kX5_does_152) (fun _ h9 => h9) rfl dX5_does_7 ?_
    refine r_iconst hx hb dX5_does_10 ?_
    refine lv_aload_n hx hb dX5_does_11 rfl (lv_at hl 0 rfl) ?_
    refine callVO (n := 0) (As := []) (rest := [.int (iI 0), .int (iI 0)]) (wc := [(hm, .inr (5, [.ref m1, .ref m2, .ref m3, .int (iI ((pa : Nat) : Int)), .int (iI ((pb : Nat) : Int)), .ref m4, .int (iI ((cp : Nat) : Int)), .ref m5, .int (iI ((ty : Nat) : Int)), .ref m6, .int (iI ((nx : Nat) : Int)), .int (iI (0)), .int (iI ((se1 : Nat) : Int)), .int (iI ((le : Nat) : Int)), .ref m7, .int (iI (bp)), .ref m8])), (m1, .inl (cI, 516, .inl (rI (sF cn en ac cu co au er ki bs))))]) S (m_length l D cI cB cZ cO hm m1 m2 m3 m4 m5 m6 m7 m8 pa pb cp ty nx 0 (((se1 : Nat) : Int)) le bp cn en ac cu co au er ki bs (by first | assumption | (first | omega | assumption)) (by first | assumption | (first | omega | assumption)) (by first | assumption | (first | omega | assumption)) (by first | assumption | (first | omega | assumption))) gX5_does_X5_length rfl ⟨rfl, rfl⟩ (by decide +kernel) ⟨Nat.le_of_ble_eq_true rfl, Nat.le_of_ble_eq_true rfl⟩ hE hP [0, 1] rfl 5 0 rfl rfl rfl hl.1 rfl (Nat.le_of_ble_eq_true rfl) dX5_does_12 ⟨Nat.le_of_ble_eq_true rfl, Nat.le_of_ble_eq_true rfl⟩ ?_
    rw [show (0 : Int) = (0) from by omega]
    rw [show (0 : Int) = (0) from by omega]
    refine callSO (n := 3) (As := [.int (iI (0)), .int (iI (0)), .int (iI ((cnt (visb (omF au) er ac) cn : Nat) : Int))]) (rest := []) (wc := []) S (m_in l D cI cB cZ cO 0 0 (((cnt (visb (omF au) er ac) cn : Nat) : Int)) (by first | assumption | (first | omega | assumption)) (by first | assumption | (first | omega | assumption)) (by first | assumption | (first | omega | assumption))) gX5_does_X5_in rfl ⟨rfl, rfl⟩ (by decide +kernel) ⟨Nat.le_of_ble_eq_true rfl, Nat.le_of_ble_eq_true rfl⟩ hE hP [] rfl rfl hl.1 rfl (Nat.le_of_ble_eq_true rfl) dX5_does_15 ⟨Nat.le_of_ble_eq_true rfl, Nat.le_of_ble_eq_true rfl⟩ ?_
    refine r_ifb_eq (tgt := 32) hx hb dX5_does_18 (by decide) (fun c_2 => ?_) (fun c_2 => ?_)
    · skip
      exfalso; omega
    · skip
      refine lv_aload_n hx hb dX5_does_21 rfl (lv_at hl 0 rfl) ?_
      refine lv_aload_n hx hb dX5_does_22 rfl (lv_at hl 0 rfl) ?_
      refine va_get (D := D) (ci := 5) (v := .int (iI ((se1 : Nat) : Int))) (C := RX5) (T := TX5) (N := 17) hx hb hts nX5_does_X5 hown hK hP 0 rfl rfl 12 (by decide) (hts _ kX5_does_158) (fun _ h9 => h9) rfl dX5_does_23 ?_
      refine callVO (n := 1) (As := [.int (iI ((se1 : Nat) : Int))]) (rest := []) (wc := [(hm, .inr (5, [.ref m1, .ref m2, .ref m3, .int (iI ((pa : Nat) : Int)), .int (iI ((pb : Nat) : Int)), .ref m4, .int (iI ((cp : Nat) : Int)), .ref m5, .int (iI ((ty : Nat) : Int)), .ref m6, .int (iI ((nx : Nat) : Int)), .int (iI (0)), .int (iI ((se1 : Nat) : Int)), .int (iI ((le : Nat) : Int)), .ref m7, .int (iI (bp)), .ref m8])), (m1, .inl (cI, 516, .inl (rI (sF cn en ac cu co au er ki bs))))]) S (m_hasRoom l D cI cB cZ cO hm m1 m2 m3 m4 m5 m6 m7 m8 pa pb cp ty nx 0 (((se1 : Nat) : Int)) le bp cn en ac cu co au er ki bs se1 (by first | assumption | (first | omega | assumption)) (by first | assumption | (first | omega | assumption)) (by first | assumption | (first | omega | assumption)) (by first | assumption | (first | omega | assumption)) (by first | assumption | (first | omega | assumption)) (by first | assumption | (first | omega | assumption))) gX5_does_X5_hasRoom rfl ⟨rfl, rfl⟩ (by decide +kernel) ⟨Nat.le_of_ble_eq_true rfl, Nat.le_of_ble_eq_true rfl⟩ hE hP [0, 1] rfl 5 0 rfl rfl rfl hl.1 rfl (Nat.le_of_ble_eq_true rfl) dX5_does_26 ⟨Nat.le_of_ble_eq_true rfl, Nat.le_of_ble_eq_true rfl⟩ ?_
      refine r_ifb_ne (tgt := 34) hx hb dX5_does_29 (by decide) (fun c_3 => ?_) (fun c_3 => ?_)
      · skip
        refine lv_aload_n hx hb dX5_does_34 rfl (lv_at hl 0 rfl) ?_
        refine lv_aload_n hx hb dX5_does_35 rfl (lv_at hl 0 rfl) ?_
        refine va_get (D := D) (ci := 5) (v := .int (iI 0)) (C := RX5) (T := TX5) (N := 17) hx hb hts nX5_does_X5 hown hK hP 0 rfl rfl 11 (by decide) (hts _ kX5_does_152) (fun _ h9 => h9) rfl dX5_does_36 ?_
        refine lv_aload_n hx hb dX5_does_39 rfl (lv_at hl 0 rfl) ?_
        refine va_get (D := D) (ci := 5) (v := .int (iI ((se1 : Nat) : Int))) (C := RX5) (T := TX5) (N := 17) hx hb hts nX5_does_X5 hown hK hP 0 rfl rfl 12 (by decide) (hts _ kX5_does_158) (fun _ h9 => h9) rfl dX5_does_40 ?_
        refine callVX (n := 2) (As := [.int (iI 0), .int (iI ((se1 : Nat) : Int))]) (rest := []) (wc := [(hm, .inr (5, [.ref m1, .ref m2, .ref m3, .int (iI ((pa : Nat) : Int)), .int (iI ((pb : Nat) : Int)), .ref m4, .int (iI ((cp : Nat) : Int)), .ref m5, .int (iI ((ty : Nat) : Int)), .ref m6, .int (iI ((nx : Nat) : Int)), .int (iI (0)), .int (iI ((se1 : Nat) : Int)), .int (iI ((le : Nat) : Int)), .ref m7, .int (iI (bp)), .ref m8])), (m1, .inl (cI, 516, .inl (rI (sF cn en ac cu co au er ki bs))))]) (wr := [(m5, .inl (cB, 80, .inl (rI (fun j => sby (sc j)))))]) (ws2 := fun u => [(hm, .inr (5, [.ref m1, .ref m2, .ref m3, .int (iI ((pa : Nat) : Int)), .int (iI ((pb : Nat) : Int)), .ref m4, .int (iI ((cp : Nat) : Int)), .ref m5, .int (iI ((ty : Nat) : Int)), .ref m6, .int (iI ((nx : Nat) : Int)), .int (iI (0)), .int (iI ((se1 : Nat) : Int)), .int (iI ((le : Nat) : Int)), .ref m7, .int (iI (bp)), .ref m8])), (m1, .inl (cI, 516, .inl (rI (sF (cn + se1) (en + 1) (ac ||| 2 ^ en) cu (shF co 0 se1 cn) (shI au 0 se1 cn) (shF er 0 se1 cn) (up ki en (0)) (up bs en (-1)))))), (m5, .inl (cB, 80, .inl (rI (fun j => sby (sc j)))))]) S hE hP hD hS hA (m_opens_0 l D cI cB cZ cO s.heap.size hm m1 m2 m3 m4 m5 m6 m7 m8 pa pb cp ty nx 0 (((se1 : Nat) : Int)) le bp cn en ac cu co au er ki bs se1 (by first | assumption | (first | omega | assumption)) (by first | assumption | (first | omega | assumption)) (by first | assumption | (first | omega | assumption)) (by first | assumption | (first | omega | assumption)) (by first | assumption | (first | omega | assumption)) (by first | assumption | (first | omega | assumption)) (by first | assumption | (first | omega | assumption))) gX5_does_X5_opens rfl ⟨rfl, rfl⟩ (by decide +kernel) ⟨Nat.le_of_ble_eq_true rfl, Nat.le_of_ble_eq_true rfl⟩ [0, 1] [2] [1, 2, 0] rfl (by decide) rfl (by decide) (by decide) (by decide) (fun u => rfl) 5 0 rfl rfl rfl hl.1 rfl (Nat.le_of_ble_eq_true rfl) dX5_does_43 ⟨Nat.le_of_ble_eq_true rfl, Nat.le_of_ble_eq_true rfl⟩ (fun u u43p H locs hP hD hS => ?_)
        have hP : va_P D vwCl [(hm, .inr (5, [.ref m1, .ref m2, .ref m3, .int (iI ((pa : Nat) : Int)), .int (iI ((pb : Nat) : Int)), .ref m4, .int (iI ((cp : Nat) : Int)), .ref m5, .int (iI ((ty : Nat) : Int)), .ref m6, .int (iI ((nx : Nat) : Int)), .int (iI (0)), .int (iI ((se1 : Nat) : Int)), .int (iI ((le : Nat) : Int)), .ref m7, .int (iI (bp)), .ref m8])), (m1, .inl (cI, 516, .inl (rI (sF (cn + se1) (en + 1) (ac ||| 2 ^ en) cu (shF co 0 se1 cn) (shI au 0 se1 cn) (shF er 0 se1 cn) (up ki en (0)) (up bs en (-1)))))), (m5, .inl (cB, 80, .inl (rI (fun j => sby (sc j)))))] H := hP
        have hD : va_D A [(hm, .inr (5, [.ref m1, .ref m2, .ref m3, .int (iI ((pa : Nat) : Int)), .int (iI ((pb : Nat) : Int)), .ref m4, .int (iI ((cp : Nat) : Int)), .ref m5, .int (iI ((ty : Nat) : Int)), .ref m6, .int (iI ((nx : Nat) : Int)), .int (iI (0)), .int (iI ((se1 : Nat) : Int)), .int (iI ((le : Nat) : Int)), .ref m7, .int (iI (bp)), .ref m8])), (m1, .inl (cI, 516, .inl (rI (sF (cn + se1) (en + 1) (ac ||| 2 ^ en) cu (shF co 0 se1 cn) (shI au 0 se1 cn) (shF er 0 se1 cn) (up ki en (0)) (up bs en (-1)))))), (m5, .inl (cB, 80, .inl (rI (fun j => sby (sc j)))))] := hD
        refine W.eq (g2 := F0 m 46 ls [.int (iI 0)]) rfl ?_
        refine lv_istore_n (lv' := [(2, .int (iI 0)), (0, .ref hm), (1, .int (iI 43))]) hx hb dX5_does_46 rfl hl (by decide) rfl (fun ls hl => ?_)
        refine r_iconst hx hb dX5_does_47 ?_
        refine lv_istore_n (lv' := [(3, .int (iI 0)), (2, .int (iI 0)), (0, .ref hm), (1, .int (iI 43))]) hx hb dX5_does_48 rfl hl (by decide) rfl (fun ls hl => ?_)
        have loop_49 : ∀ (n_49 : Nat) (d : Nat), (se1 - d) < n_49 → (d ≤ se1) → ∀ (H : Heap) (locs : List Loc), va_P D vwCl [(hm, .inr (5, [.ref m1, .ref m2, .ref m3, .int (iI ((pa : Nat) : Int)), .int (iI ((pb : Nat) : Int)), .ref m4, .int (iI ((cp : Nat) : Int)), .ref m5, .int (iI ((ty : Nat) : Int)), .ref m6, .int (iI ((nx : Nat) : Int)), .int (iI 0), .int (iI ((se1 : Nat) : Int)), .int (iI ((le : Nat) : Int)), .ref m7, .int (iI (bp)), .ref m8])), (m1, .inl (cI, 516, .inl (rI (sF (cn + se1) (en + 1) (ac ||| 2 ^ en) cu (inR (shF co 0 se1 cn) 0 (fun j => sc (le + j)) d) (inI (shI au 0 se1 cn) 0 (fun _ => ((en : Nat) : Int)) d) (inR (shF er 0 se1 cn) 0 (fun _ => 0) d) (up ki en (0)) (up bs en (-1)))))), (m5, .inl (cB, 80, .inl (rI (fun j => sby (sc j)))))] H → va_D A [(hm, .inr (5, [.ref m1, .ref m2, .ref m3, .int (iI ((pa : Nat) : Int)), .int (iI ((pb : Nat) : Int)), .ref m4, .int (iI ((cp : Nat) : Int)), .ref m5, .int (iI ((ty : Nat) : Int)), .ref m6, .int (iI ((nx : Nat) : Int)), .int (iI 0), .int (iI ((se1 : Nat) : Int)), .int (iI ((le : Nat) : Int)), .ref m7, .int (iI (bp)), .ref m8])), (m1, .inl (cI, 516, .inl (rI (sF (cn + se1) (en + 1) (ac ||| 2 ^ en) cu (inR (shF co 0 se1 cn) 0 (fun j => sc (le + j)) d) (inI (shI au 0 se1 cn) 0 (fun _ => ((en : Nat) : Int)) d) (inR (shF er 0 se1 cn) 0 (fun _ => 0) d) (up ki en (0)) (up bs en (-1)))))), (m5, .inl (cB, 80, .inl (rI (fun j => sby (sc j)))))] → va_S A s.heap H locs → ∀ (ls : Array Slot), lv_has ls 4 [(0, .ref hm), (1, .int (iI 43)), (2, .int (iI 0)), (3, .int (iI ((d : Nat) : Int)))] → W p l e ({ frames := 4, cells := 0, slots := 0, locals := 87 }) s m ([.ref hm, .int (iI 43)] : List Value).toArray below meth c H locs 0 0 (MQ below (QX D (S := Unit) (fun u => some (.int (iI 1))) (fun u => True) (fun u => [(hm, .inr (5, [.ref m1, .ref m2, .ref m3, .int (iI ((pa : Nat) : Int)), .int (iI ((pb : Nat) : Int)), .ref m4, .int (iI ((cp : Nat) : Int)), .ref m5, .int (iI ((ty : Nat) : Int)), .ref m6, .int (iI ((nx : Nat) : Int)), .int (iI 0), .int (iI ((se1 : Nat) : Int)), .int (iI ((le : Nat) : Int)), .ref m7, .int (iI (bp)), .ref m8])), (m1, .inl (cI, 516, .inl (rI (sF (cn + se1) (en + 1) (ac ||| 2 ^ en) cu (inR (shF co 0 se1 cn) 0 (fun j => sc (le + j)) se1) (inI (shI au 0 se1 cn) 0 (fun _ => ((en : Nat) : Int)) se1) (inR (shF er 0 se1 cn) 0 (fun _ => 0) se1) (up ki en (0)) (up bs en (-1)))))), (m5, .inl (cB, 80, .inl (rI (fun j => sby (sc j)))))]) A) ([.ref hm, .int (iI 43)] : List Value).toArray s 0 0 A) (F0 m 49 ls []) := by
          intro n_49
          induction n_49 with
          | zero => intro d h_meas; exact absurd h_meas (Nat.not_lt_zero _)
          | succ n_49 ih_49 =>
            intro d h_m49 id H locs hP hD hS ls hl
            refine lv_iload_n hx hb dX5_does_49 rfl (lv_at hl 3 rfl) ?_
            refine lv_aload_n hx hb dX5_does_50 rfl (lv_at hl 0 rfl) ?_
            refine va_get (D := D) (ci := 5) (v := .int (iI ((se1 : Nat) : Int))) (C := RX5) (T := TX5) (N := 17) hx hb hts nX5_does_X5 hown hK hP 0 rfl rfl 12 (by decide) (hts _ kX5_does_158) (fun _ h9 => h9) rfl dX5_does_51 ?_
            refine r_icmp_ge (tgt := 81) hx hb (by omega) (by omega) dX5_does_54 (by decide) (fun c_4 => ?_) (fun c_4 => ?_)
            · skip
              obtain rfl : se1 = d := by omega
              refine r_iconst hx hb dX5_does_81 ?_
              exact r_zretX hx hb hr hlocks hP hD hS () (rfl) (trivial) rfl (Or.inr rfl) dX5_does_82
            · skip
              refine lv_aload_n hx hb dX5_does_57 rfl (lv_at hl 0 rfl) ?_
              refine lv_iload_n hx hb dX5_does_58 rfl (lv_at hl 2 rfl) ?_
              refine lv_iload_n hx hb dX5_does_59 rfl (lv_at hl 3 rfl) ?_
              refine r_iadd (v := ((0 + d : Nat) : Int)) hx hb (rfl) dX5_does_60 ?_
              refine lv_aload_n hx hb dX5_does_61 rfl (lv_at hl 0 rfl) ?_
              refine va_get (D := D) (ci := 5) (v := .ref m5) (C := RX5) (T := TX5) (N := 17) hx hb hts nX5_does_X5 hown hK hP 0 rfl rfl 7 (by decide) (hts _ kX5_does_31) (fun _ h9 => h9) rfl dX5_does_62 ?_
              refine lv_aload_n hx hb dX5_does_65 rfl (lv_at hl 0 rfl) ?_
              refine va_get (D := D) (ci := 5) (v := .int (iI ((le : Nat) : Int))) (C := RX5) (T := TX5) (N := 17) hx hb hts nX5_does_X5 hown hK hP 0 rfl rfl 13 (by decide) (hts _ kX5_does_161) (fun _ h9 => h9) rfl dX5_does_66 ?_
              refine lv_iload_n hx hb dX5_does_69 rfl (lv_at hl 3 rfl) ?_
              refine r_iadd (v := ((le + d : Nat) : Int)) hx hb (rfl) dX5_does_70 ?_
              refine r_bald hx hb hK hP 2 1 rfl rfl (le + d) (rfl) (by omega) (by decide) dX5_does_71 ?_
              have hsb9 : sby (sc (le + d)) = ((sc (le + d) : Nat) : Int) := if_pos (hlet d (by omega))
              first | rw [hsb9] | simp only [hsb9]
              refine callVX (n := 2) (As := [.int (iI ((0 + d : Nat) : Int)), .int (iI ((sc (le + d) : Nat) : Int))]) (rest := []) (wc := [(hm, .inr (5, [.ref m1, .ref m2, .ref m3, .int (iI ((pa : Nat) : Int)), .int (iI ((pb : Nat) : Int)), .ref m4, .int (iI ((cp : Nat) : Int)), .ref m5, .int (iI ((ty : Nat) : Int)), .ref m6, .int (iI ((nx : Nat) : Int)), .int (iI (0)), .int (iI ((se1 : Nat) : Int)), .int (iI ((le : Nat) : Int)), .ref m7, .int (iI (bp)), .ref m8])), (m1, .inl (cI, 516, .inl (rI (sF ((cn + se1)) ((en + 1)) ((ac ||| 2 ^ en)) cu ((inR (shF co 0 se1 cn) 0 (fun j => sc (le + j)) d)) ((inI (shI au 0 se1 cn) 0 (fun _ => ((en : Nat) : Int)) d)) ((inR (shF er 0 se1 cn) 0 (fun _ => 0) d)) ((up ki en (0))) ((up bs en (-1)))))))]) (wr := [(m5, .inl (cB, 80, .inl (rI (fun j => sby (sc j)))))]) (ws2 := fun u => [(hm, .inr (5, [.ref m1, .ref m2, .ref m3, .int (iI ((pa : Nat) : Int)), .int (iI ((pb : Nat) : Int)), .ref m4, .int (iI ((cp : Nat) : Int)), .ref m5, .int (iI ((ty : Nat) : Int)), .ref m6, .int (iI ((nx : Nat) : Int)), .int (iI (0)), .int (iI ((se1 : Nat) : Int)), .int (iI ((le : Nat) : Int)), .ref m7, .int (iI (bp)), .ref m8])), (m1, .inl (cI, 516, .inl (rI (sF ((cn + se1)) ((en + 1)) ((ac ||| 2 ^ en)) cu (up (inR (shF co 0 se1 cn) 0 (fun j => sc (le + j)) d) (0 + d) ((sc (le + d)))) (up (inI (shI au 0 se1 cn) 0 (fun _ => ((en : Nat) : Int)) d) (0 + d) ((((en + 1) : Nat) : Int) - 1)) (up (inR (shF er 0 se1 cn) 0 (fun _ => 0) d) (0 + d) (0)) ((up ki en (0))) ((up bs en (-1))))))), (m5, .inl (cB, 80, .inl (rI (fun j => sby (sc j)))))]) S hE hP hD hS hA (m_lays l D cI cB cZ cO H.size hm m1 m2 m3 m4 m5 m6 m7 m8 pa pb cp ty nx 0 (((se1 : Nat) : Int)) le bp (cn + se1) (en + 1) (ac ||| 2 ^ en) cu (inR (shF co 0 se1 cn) 0 (fun j => sc (le + j)) d) (inI (shI au 0 se1 cn) 0 (fun _ => ((en : Nat) : Int)) d) (inR (shF er 0 se1 cn) 0 (fun _ => 0) d) (up ki en (0)) (up bs en (-1)) (0 + d) (sc (le + d)) (by first | assumption | (first | omega | assumption))) gX5_does_X5_lays rfl ⟨rfl, rfl⟩ (by decide +kernel) ⟨Nat.le_of_ble_eq_true rfl, Nat.le_of_ble_eq_true rfl⟩ [0, 1] [2] [1, 2, 0] rfl (by decide) rfl (by decide) (by decide) (by decide) (fun u => rfl) 5 0 rfl rfl rfl hl.1 rfl (Nat.le_of_ble_eq_true rfl) dX5_does_72 ⟨Nat.le_of_ble_eq_true rfl, Nat.le_of_ble_eq_true rfl⟩ (fun u u72p H locs hP hD hS => ?_)
              have hP : va_P D vwCl [(hm, .inr (5, [.ref m1, .ref m2, .ref m3, .int (iI ((pa : Nat) : Int)), .int (iI ((pb : Nat) : Int)), .ref m4, .int (iI ((cp : Nat) : Int)), .ref m5, .int (iI ((ty : Nat) : Int)), .ref m6, .int (iI ((nx : Nat) : Int)), .int (iI (0)), .int (iI ((se1 : Nat) : Int)), .int (iI ((le : Nat) : Int)), .ref m7, .int (iI (bp)), .ref m8])), (m1, .inl (cI, 516, .inl (rI (sF ((cn + se1)) ((en + 1)) ((ac ||| 2 ^ en)) cu (up (inR (shF co 0 se1 cn) 0 (fun j => sc (le + j)) d) (0 + d) ((sc (le + d)))) (up (inI (shI au 0 se1 cn) 0 (fun _ => ((en : Nat) : Int)) d) (0 + d) ((((en + 1) : Nat) : Int) - 1)) (up (inR (shF er 0 se1 cn) 0 (fun _ => 0) d) (0 + d) (0)) ((up ki en (0))) ((up bs en (-1))))))), (m5, .inl (cB, 80, .inl (rI (fun j => sby (sc j)))))] H := hP
              have hD : va_D A [(hm, .inr (5, [.ref m1, .ref m2, .ref m3, .int (iI ((pa : Nat) : Int)), .int (iI ((pb : Nat) : Int)), .ref m4, .int (iI ((cp : Nat) : Int)), .ref m5, .int (iI ((ty : Nat) : Int)), .ref m6, .int (iI ((nx : Nat) : Int)), .int (iI (0)), .int (iI ((se1 : Nat) : Int)), .int (iI ((le : Nat) : Int)), .ref m7, .int (iI (bp)), .ref m8])), (m1, .inl (cI, 516, .inl (rI (sF ((cn + se1)) ((en + 1)) ((ac ||| 2 ^ en)) cu (up (inR (shF co 0 se1 cn) 0 (fun j => sc (le + j)) d) (0 + d) ((sc (le + d)))) (up (inI (shI au 0 se1 cn) 0 (fun _ => ((en : Nat) : Int)) d) (0 + d) ((((en + 1) : Nat) : Int) - 1)) (up (inR (shF er 0 se1 cn) 0 (fun _ => 0) d) (0 + d) (0)) ((up ki en (0))) ((up bs en (-1))))))), (m5, .inl (cB, 80, .inl (rI (fun j => sby (sc j)))))] := hD
              refine W.eq (g2 := F0 m 75 ls []) rfl ?_
              refine lv_iinc (v := iI ((d + 1 : Nat) : Int)) (lv' := [(3, .int (iI ((d + 1 : Nat) : Int))), (0, .ref hm), (1, .int (iI 43)), (2, .int (iI 0))]) hx hb dX5_does_75 hl (k := 3) rfl ((iI_add _ _).trans (ii (rfl))) (by decide) rfl (fun ls hl => ?_)
              refine lv_goto (tgt := 49) hx hb dX5_does_78 (by decide) ?_
              have hww : ([(hm, .inr (5, [.ref m1, .ref m2, .ref m3, .int (iI ((pa : Nat) : Int)), .int (iI ((pb : Nat) : Int)), .ref m4, .int (iI ((cp : Nat) : Int)), .ref m5, .int (iI ((ty : Nat) : Int)), .ref m6, .int (iI ((nx : Nat) : Int)), .int (iI (0)), .int (iI ((se1 : Nat) : Int)), .int (iI ((le : Nat) : Int)), .ref m7, .int (iI (bp)), .ref m8])), (m1, .inl (cI, 516, .inl (rI (sF ((cn + se1)) ((en + 1)) ((ac ||| 2 ^ en)) cu (up (inR (shF co 0 se1 cn) 0 (fun j => sc (le + j)) d) (0 + d) ((sc (le + d)))) (up (inI (shI au 0 se1 cn) 0 (fun _ => ((en : Nat) : Int)) d) (0 + d) ((((en + 1) : Nat) : Int) - 1)) (up (inR (shF er 0 se1 cn) 0 (fun _ => 0) d) (0 + d) (0)) ((up ki en (0))) ((up bs en (-1))))))), (m5, .inl (cB, 80, .inl (rI (fun j => sby (sc j)))))] : va_W) = [(hm, .inr (5, [.ref m1, .ref m2, .ref m3, .int (iI ((pa : Nat) : Int)), .int (iI ((pb : Nat) : Int)), .ref m4, .int (iI ((cp : Nat) : Int)), .ref m5, .int (iI ((ty : Nat) : Int)), .ref m6, .int (iI ((nx : Nat) : Int)), .int (iI 0), .int (iI ((se1 : Nat) : Int)), .int (iI ((le : Nat) : Int)), .ref m7, .int (iI (bp)), .ref m8])), (m1, .inl (cI, 516, .inl (rI (sF (cn + se1) (en + 1) (ac ||| 2 ^ en) cu (inR (shF co 0 se1 cn) 0 (fun j => sc (le + j)) (d + 1)) (inI (shI au 0 se1 cn) 0 (fun _ => ((en : Nat) : Int)) (d + 1)) (inR (shF er 0 se1 cn) 0 (fun _ => 0) (d + 1)) (up ki en (0)) (up bs en (-1)))))), (m5, .inl (cB, 80, .inl (rI (fun j => sby (sc j)))))] := by rw [inR_s rfl, inI_s (g := fun _ => ((en : Nat) : Int)) (d := d) (v := ((en + 1 : Nat) : Int) - 1) (show ((en : Nat) : Int) = ((en + 1 : Nat) : Int) - 1 by omega), inR_s rfl]
              rw [hww] at hP hD
              exact ih_49 (d + 1) (by omega) (by first | assumption | (omega)) H locs hP hD hS ls (lv_sub hl [1, 2, 3, 0] rfl)
        have hww : ([(hm, .inr (5, [.ref m1, .ref m2, .ref m3, .int (iI ((pa : Nat) : Int)), .int (iI ((pb : Nat) : Int)), .ref m4, .int (iI ((cp : Nat) : Int)), .ref m5, .int (iI ((ty : Nat) : Int)), .ref m6, .int (iI ((nx : Nat) : Int)), .int (iI (0)), .int (iI ((se1 : Nat) : Int)), .int (iI ((le : Nat) : Int)), .ref m7, .int (iI (bp)), .ref m8])), (m1, .inl (cI, 516, .inl (rI (sF (cn + se1) (en + 1) (ac ||| 2 ^ en) cu (shF co 0 se1 cn) (shI au 0 se1 cn) (shF er 0 se1 cn) (up ki en (0)) (up bs en (-1)))))), (m5, .inl (cB, 80, .inl (rI (fun j => sby (sc j)))))] : va_W) = [(hm, .inr (5, [.ref m1, .ref m2, .ref m3, .int (iI ((pa : Nat) : Int)), .int (iI ((pb : Nat) : Int)), .ref m4, .int (iI ((cp : Nat) : Int)), .ref m5, .int (iI ((ty : Nat) : Int)), .ref m6, .int (iI ((nx : Nat) : Int)), .int (iI 0), .int (iI ((se1 : Nat) : Int)), .int (iI ((le : Nat) : Int)), .ref m7, .int (iI (bp)), .ref m8])), (m1, .inl (cI, 516, .inl (rI (sF (cn + se1) (en + 1) (ac ||| 2 ^ en) cu (inR (shF co 0 se1 cn) 0 (fun j => sc (le + j)) 0) (inI (shI au 0 se1 cn) 0 (fun _ => ((en : Nat) : Int)) 0) (inR (shF er 0 se1 cn) 0 (fun _ => 0) 0) (up ki en (0)) (up bs en (-1)))))), (m5, .inl (cB, 80, .inl (rI (fun j => sby (sc j)))))] := by rw [inR_0, inI_0, inR_0]
        rw [hww] at hP hD
        exact loop_49 ((se1 - 0) + 1) 0 (by omega) (by first | assumption | (omega)) H locs hP hD hS ls (lv_sub hl [2, 3, 1, 0] rfl)
      · skip
        exfalso; omega

set_option maxHeartbeats 4000000 in
set_option maxRecDepth 100000 in
theorem m_does_er_bad (l : Launch) (D : va_G) (cI cB cZ cO : ClassId) (hm : Nat) (m1 : Nat) (m2 : Nat) (m3 : Nat) (m4 : Nat) (m5 : Nat) (m6 : Nat) (m7 : Nat) (m8 : Nat) (pa : Nat) (pb : Nat) (cp : Nat) (ty : Nat) (nx : Nat) (le : Nat) (bp : Int) (cn : Nat) (en : Nat) (ac : Nat) (cu : Nat) (co : Nat → Nat) (au : Nat → Int) (er : Nat → Nat) (ki : Nat → Nat) (bs : Nat → Int) (fi1 : Nat) (se1 : Nat) (hcn : cn ≤ 160) (hac : ac < 65536) (hau : ∀ k, -1 ≤ au k ∧ au k < 16) (her : ∀ k, er k < 65536) (hen : en ≤ 16) (hfi : fi1 < 65536) (hse : se1 < 65536) (hbad : ¬ (fi1 < se1 ∧ se1 ≤ cnt (visb (omF au) er ac) cn)) : Met l yX5_does wsX5_does ({ frames := 4, cells := 0, slots := 0, locals := 93 }) (va_Pc [.ref hm, .int (iI 45)] (RO D cI cB cZ cO [(hm, .inr (5, [.ref m1, .ref m2, .ref m3, .int (iI ((pa : Nat) : Int)), .int (iI ((pb : Nat) : Int)), .ref m4, .int (iI ((cp : Nat) : Int)), .ref m5, .int (iI ((ty : Nat) : Int)), .ref m6, .int (iI ((nx : Nat) : Int)), .int (iI ((fi1 : Nat) : Int)), .int (iI ((se1 : Nat) : Int)), .int (iI ((le : Nat) : Int)), .ref m7, .int (iI (bp)), .ref m8])), (m1, .inl (cI, 516, .inl (rI (sF cn en ac cu co au er ki bs))))])) (QO 0) 0 0 (fun _ => False) := by
  refine startO (cc := cX5_does) (maxL := 4) (ret := (some .boolean)) (by decide) rfl (Nat.le_of_ble_eq_true rfl) ?_
  intro p e s m below meth c S hr hlocks hE hP ls hl
  have hx := S.1
  have hb := S.2.1
  have hown := S.2.2.2.1
  have hts := S.2.2.2.2
  have hK := hE.1
  have hl : lv_has ls 4 [(0, .ref hm), (1, .int (iI 45))] := hl
  refine lv_iload_n hx hb dX5_does_0 rfl (lv_at hl 1 rfl) ?_
  refine r_bipush hx hb dX5_does_1 (by decide) ?_
  refine r_icmp_ne (tgt := 83) hx hb (⟨by decide, by decide⟩) (⟨by decide, by decide⟩) dX5_does_3 (by decide) (fun c_1 => ?_) (fun c_1 => ?_)
  · skip
    refine lv_iload_n hx hb dX5_does_83 rfl (lv_at hl 1 rfl) ?_
    refine r_bipush hx hb dX5_does_84 (by decide) ?_
    refine r_icmp_ne (tgt := 110) hx hb (⟨by decide, by decide⟩) (⟨by decide, by decide⟩) dX5_does_86 (by decide) (fun c_2 => ?_) (fun c_2 => ?_)
    · skip
      exact absurd c_2 (by decide)
    · skip
      refine lv_aload_n hx hb dX5_does_89 rfl (lv_at hl 0 rfl) ?_
      refine lv_aload_n hx hb dX5_does_90 rfl (lv_at hl 0 rfl) ?_
      refine va_get (D := D) (ci := 5) (v := .int (iI ((fi1 : Nat) : Int))) (C := RX5) (T := TX5) (N := 17) hx hb hts nX5_does_X5 hown hK hP 0 rfl rfl 11 (by decide) (hts _ kX5_does_152) (fun _ h9 => h9) rfl dX5_does_91 ?_
      refine lv_aload_n hx hb dX5_does_94 rfl (lv_at hl 0 rfl) ?_
      refine va_get (D := D) (ci := 5) (v := .int (iI ((se1 : Nat) : Int))) (C := RX5) (T := TX5) (N := 17) hx hb hts nX5_does_X5 hown hK hP 0 rfl rfl 12 (by decide) (hts _ kX5_does_158) (fun _ h9 => h9) rfl dX5_does_95 ?_
      refine callVO (n := 2) (As := [.int (iI ((fi1 : Nat) : Int)), .int (iI ((se1 : Nat) : Int))]) (rest := []) (wc := [(hm, .inr (5, [.ref m1, .ref m2, .ref m3, .int (iI ((pa : Nat) : Int)), .int (iI ((pb : Nat) : Int)), .ref m4, .int (iI ((cp : Nat) : Int)), .ref m5, .int (iI ((ty : Nat) : Int)), .ref m6, .int (iI ((nx : Nat) : Int)), .int (iI ((fi1 : Nat) : Int)), .int (iI ((se1 : Nat) : Int)), .int (iI ((le : Nat) : Int)), .ref m7, .int (iI (bp)), .ref m8])), (m1, .inl (cI, 516, .inl (rI (sF cn en ac cu co au er ki bs))))]) S (m_erases_bad l D cI cB cZ cO hm m1 m2 m3 m4 m5 m6 m7 m8 pa pb cp ty nx (((fi1 : Nat) : Int)) (((se1 : Nat) : Int)) le bp cn en ac cu co au er ki bs (((fi1 : Nat) : Int)) (((se1 : Nat) : Int)) (by first | assumption | (omega)) (by first | assumption | (omega)) (by first | assumption | (omega)) (by first | assumption | (omega)) (by first | assumption | (omega)) (by first | assumption | (omega)) (by first | assumption | (omega)) (by first | assumption | (omega))) gX5_does_X5_erases rfl ⟨rfl, rfl⟩ (by decide +kernel) ⟨Nat.le_of_ble_eq_true rfl, Nat.le_of_ble_eq_true rfl⟩ hE hP [0, 1] rfl 5 0 rfl rfl rfl hl.1 rfl (Nat.le_of_ble_eq_true rfl) dX5_does_98 ⟨Nat.le_of_ble_eq_true rfl, Nat.le_of_ble_eq_true rfl⟩ ?_
      refine r_if_lt (tgt := 108) hx hb (⟨by decide, by decide⟩) dX5_does_101 (by decide) (fun c_3 => ?_) (fun c_3 => ?_)
      · skip
        refine r_iconst hx hb dX5_does_108 ?_
        exact r_zretO hx hb hr hlocks (rfl) (Or.inl rfl) dX5_does_109
      · skip
        exact absurd c_3 (by decide)
  · skip
    exact absurd c_1 (by decide)

set_option maxHeartbeats 4000000 in
set_option maxRecDepth 100000 in
theorem m_does_er_full (l : Launch) (D : va_G) (cI cB cZ cO : ClassId) (hm : Nat) (m1 : Nat) (m2 : Nat) (m3 : Nat) (m4 : Nat) (m5 : Nat) (m6 : Nat) (m7 : Nat) (m8 : Nat) (pa : Nat) (pb : Nat) (cp : Nat) (ty : Nat) (nx : Nat) (le : Nat) (bp : Int) (cn : Nat) (en : Nat) (ac : Nat) (cu : Nat) (co : Nat → Nat) (au : Nat → Int) (er : Nat → Nat) (ki : Nat → Nat) (bs : Nat → Int) (fi1 : Nat) (se1 : Nat) (hcn : cn ≤ 160) (hac : ac < 65536) (hau : ∀ k, -1 ≤ au k ∧ au k < 16) (her : ∀ k, er k < 65536) (hen : en ≤ 16) (hfi : fi1 < 65536) (hse : se1 < 65536) (hgood : fi1 < se1 ∧ se1 ≤ cnt (visb (omF au) er ac) cn) (hfull : en = 16) : Met l yX5_does wsX5_does ({ frames := 4, cells := 0, slots := 0, locals := 93 }) (va_Pc [.ref hm, .int (iI 45)] (RO D cI cB cZ cO [(hm, .inr (5, [.ref m1, .ref m2, .ref m3, .int (iI ((pa : Nat) : Int)), .int (iI ((pb : Nat) : Int)), .ref m4, .int (iI ((cp : Nat) : Int)), .ref m5, .int (iI ((ty : Nat) : Int)), .ref m6, .int (iI ((nx : Nat) : Int)), .int (iI ((fi1 : Nat) : Int)), .int (iI ((se1 : Nat) : Int)), .int (iI ((le : Nat) : Int)), .ref m7, .int (iI (bp)), .ref m8])), (m1, .inl (cI, 516, .inl (rI (sF cn en ac cu co au er ki bs))))])) (QO 0) 0 0 (fun _ => False) := by
  refine startO (cc := cX5_does) (maxL := 4) (ret := (some .boolean)) (by decide) rfl (Nat.le_of_ble_eq_true rfl) ?_
  intro p e s m below meth c S hr hlocks hE hP ls hl
  have hx := S.1
  have hb := S.2.1
  have hown := S.2.2.2.1
  have hts := S.2.2.2.2
  have hK := hE.1
  have hl : lv_has ls 4 [(0, .ref hm), (1, .int (iI 45))] := hl
  refine lv_iload_n hx hb dX5_does_0 rfl (lv_at hl 1 rfl) ?_
  refine r_bipush hx hb dX5_does_1 (by decide) ?_
  refine r_icmp_ne (tgt := 83) hx hb (⟨by decide, by decide⟩) (⟨by decide, by decide⟩) dX5_does_3 (by decide) (fun c_1 => ?_) (fun c_1 => ?_)
  · skip
    refine lv_iload_n hx hb dX5_does_83 rfl (lv_at hl 1 rfl) ?_
    refine r_bipush hx hb dX5_does_84 (by decide) ?_
    refine r_icmp_ne (tgt := 110) hx hb (⟨by decide, by decide⟩) (⟨by decide, by decide⟩) dX5_does_86 (by decide) (fun c_2 => ?_) (fun c_2 => ?_)
    · skip
      exact absurd c_2 (by decide)
    · skip
      refine lv_aload_n hx hb dX5_does_89 rfl (lv_at hl 0 rfl) ?_
      refine lv_aload_n hx hb dX5_does_90 rfl (lv_at hl 0 rfl) ?_
      refine va_get (D := D) (ci := 5) (v := .int (iI ((fi1 : Nat) : Int))) (C := RX5) (T := TX5) (N := 17) hx hb hts nX5_does_X5 hown hK hP 0 rfl rfl 11 (by decide) (hts _ kX5_does_152) (fun _ h9 => h9) rfl dX5_does_91 ?_
      refine lv_aload_n hx hb dX5_does_94 rfl (lv_at hl 0 rfl) ?_
      refine va_get (D := D) (ci := 5) (v := .int (iI ((se1 : Nat) : Int))) (C := RX5) (T := TX5) (N := 17) hx hb hts nX5_does_X5 hown hK hP 0 rfl rfl 12 (by decide) (hts _ kX5_does_158) (fun _ h9 => h9) rfl dX5_does_95 ?_
      refine callVO (n := 2) (As := [.int (iI ((fi1 : Nat) : Int)), .int (iI ((se1 : Nat) : Int))]) (rest := []) (wc := [(hm, .inr (5, [.ref m1, .ref m2, .ref m3, .int (iI ((pa : Nat) : Int)), .int (iI ((pb : Nat) : Int)), .ref m4, .int (iI ((cp : Nat) : Int)), .ref m5, .int (iI ((ty : Nat) : Int)), .ref m6, .int (iI ((nx : Nat) : Int)), .int (iI ((fi1 : Nat) : Int)), .int (iI ((se1 : Nat) : Int)), .int (iI ((le : Nat) : Int)), .ref m7, .int (iI (bp)), .ref m8])), (m1, .inl (cI, 516, .inl (rI (sF cn en ac cu co au er ki bs))))]) S (m_erases_full l D cI cB cZ cO hm m1 m2 m3 m4 m5 m6 m7 m8 pa pb cp ty nx (((fi1 : Nat) : Int)) (((se1 : Nat) : Int)) le bp cn en ac cu co au er ki bs (((fi1 : Nat) : Int)) (((se1 : Nat) : Int)) (by first | assumption | (omega)) (by first | assumption | (omega)) (by first | assumption | (omega)) (by first | assumption | (omega)) (by first | assumption | (omega)) (by first | assumption | (omega)) (by first | assumption | (omega)) (by first | assumption | (omega)) (by first | assumption | (omega))) gX5_does_X5_erases rfl ⟨rfl, rfl⟩ (by decide +kernel) ⟨Nat.le_of_ble_eq_true rfl, Nat.le_of_ble_eq_true rfl⟩ hE hP [0, 1] rfl 5 0 rfl rfl rfl hl.1 rfl (Nat.le_of_ble_eq_true rfl) dX5_does_98 ⟨Nat.le_of_ble_eq_true rfl, Nat.le_of_ble_eq_true rfl⟩ ?_
      refine r_if_lt (tgt := 108) hx hb (⟨by decide, by decide⟩) dX5_does_101 (by decide) (fun c_3 => ?_) (fun c_3 => ?_)
      · skip
        refine r_iconst hx hb dX5_does_108 ?_
        exact r_zretO hx hb hr hlocks (rfl) (Or.inl rfl) dX5_does_109
      · skip
        exact absurd c_3 (by decide)
  · skip
    exact absurd c_1 (by decide)

set_option maxHeartbeats 4000000 in
set_option maxRecDepth 100000 in
theorem m_does_er (l : Launch) (D : va_G) (cI cB cZ cO : ClassId) (sz : Nat) (hm : Nat) (m1 : Nat) (m2 : Nat) (m3 : Nat) (m4 : Nat) (m5 : Nat) (m6 : Nat) (m7 : Nat) (m8 : Nat) (pa : Nat) (pb : Nat) (cp : Nat) (ty : Nat) (nx : Nat) (le : Nat) (bp : Int) (cn : Nat) (en : Nat) (ac : Nat) (cu : Nat) (co : Nat → Nat) (au : Nat → Int) (er : Nat → Nat) (ki : Nat → Nat) (bs : Nat → Int) (fi1 : Nat) (se1 : Nat) (hcn : cn ≤ 160) (hac : ac < 65536) (hau : ∀ k, -1 ≤ au k ∧ au k < 16) (her : ∀ k, er k < 65536) (hen : en < 16) (hf1 : fi1 < se1) (ht1 : se1 ≤ cnt (visb (omF au) er ac) cn) (hcu : cu ≤ 60) : Met l yX5_does wsX5_does ({ frames := 5, cells := 0, slots := 0, locals := 114 }) (va_Pc [.ref hm, .int (iI 45)] (RW D cI cB cZ cO sz [(hm, .inr (5, [.ref m1, .ref m2, .ref m3, .int (iI ((pa : Nat) : Int)), .int (iI ((pb : Nat) : Int)), .ref m4, .int (iI ((cp : Nat) : Int)), .ref m5, .int (iI ((ty : Nat) : Int)), .ref m6, .int (iI ((nx : Nat) : Int)), .int (iI ((fi1 : Nat) : Int)), .int (iI ((se1 : Nat) : Int)), .int (iI ((le : Nat) : Int)), .ref m7, .int (iI (bp)), .ref m8])), (m1, .inl (cI, 516, .inl (rI (sF cn en ac cu co au er ki bs))))])) (QX D (S := Unit) (fun u => some (.int (iI 1))) (fun u => True) (fun u => [(hm, .inr (5, [.ref m1, .ref m2, .ref m3, .int (iI ((pa : Nat) : Int)), .int (iI ((pb : Nat) : Int)), .ref m4, .int (iI ((cp : Nat) : Int)), .ref m5, .int (iI ((ty : Nat) : Int)), .ref m6, .int (iI ((nx : Nat) : Int)), .int (iI ((fi1 : Nat) : Int)), .int (iI ((se1 : Nat) : Int)), .int (iI ((le : Nat) : Int)), .ref m7, .int (iI (bp)), .ref m8])), (m1, .inl (cI, 516, .inl (rI (sF cn (en + 1) (ac ||| 2 ^ en) (min cu (cnt (visb (omF au) (erM (visb (omF au) er ac) er fi1 se1 en cn) (ac ||| 2 ^ en)) cn)) co au (erM (visb (omF au) er ac) er fi1 se1 en cn) (up ki en (1)) (up bs en (-1))))))]) (va_A [(hm, .inr (5, [.ref m1, .ref m2, .ref m3, .int (iI ((pa : Nat) : Int)), .int (iI ((pb : Nat) : Int)), .ref m4, .int (iI ((cp : Nat) : Int)), .ref m5, .int (iI ((ty : Nat) : Int)), .ref m6, .int (iI ((nx : Nat) : Int)), .int (iI ((fi1 : Nat) : Int)), .int (iI ((se1 : Nat) : Int)), .int (iI ((le : Nat) : Int)), .ref m7, .int (iI (bp)), .ref m8])), (m1, .inl (cI, 516, .inl (rI (sF cn en ac cu co au er ki bs))))] sz)) 0 0 (va_A [(hm, .inr (5, [.ref m1, .ref m2, .ref m3, .int (iI ((pa : Nat) : Int)), .int (iI ((pb : Nat) : Int)), .ref m4, .int (iI ((cp : Nat) : Int)), .ref m5, .int (iI ((ty : Nat) : Int)), .ref m6, .int (iI ((nx : Nat) : Int)), .int (iI ((fi1 : Nat) : Int)), .int (iI ((se1 : Nat) : Int)), .int (iI ((le : Nat) : Int)), .ref m7, .int (iI (bp)), .ref m8])), (m1, .inl (cI, 516, .inl (rI (sF cn en ac cu co au er ki bs))))] sz) := by
  refine startW (cc := cX5_does) (maxL := 4) (ret := (some .boolean)) (by decide) rfl (Nat.le_of_ble_eq_true rfl) ?_
  intro p e s m below meth c S hr hlocks hE hP A hD hA hS ls hl
  have hx := S.1
  have hb := S.2.1
  have hown := S.2.2.2.1
  have hts := S.2.2.2.2
  have hK := hE.1
  have hl : lv_has ls 4 [(0, .ref hm), (1, .int (iI 45))] := hl
  refine lv_iload_n hx hb dX5_does_0 rfl (lv_at hl 1 rfl) ?_
  refine r_bipush hx hb dX5_does_1 (by decide) ?_
  refine r_icmp_ne (tgt := 83) hx hb (⟨by decide, by decide⟩) (⟨by decide, by decide⟩) dX5_does_3 (by decide) (fun c_1 => ?_) (fun c_1 => ?_)
  · skip
    refine lv_iload_n hx hb dX5_does_83 rfl (lv_at hl 1 rfl) ?_
    refine r_bipush hx hb dX5_does_84 (by decide) ?_
    refine r_icmp_ne (tgt := 110) hx hb (⟨by decide, by decide⟩) (⟨by decide, by decide⟩) dX5_does_86 (by decide) (fun c_2 => ?_) (fun c_2 => ?_)
    · skip
      exact absurd c_2 (by decide)
    · skip
      refine lv_aload_n hx hb dX5_does_89 rfl (lv_at hl 0 rfl) ?_
      refine lv_aload_n hx hb dX5_does_90 rfl (lv_at hl 0 rfl) ?_
      refine va_get (D := D) (ci := 5) (v := .int (iI ((fi1 : Nat) : Int))) (C := RX5) (T := TX5) (N := 17) hx hb hts nX5_does_X5 hown hK hP 0 rfl rfl 11 (by decide) (hts _ kX5_does_152) (fun _ h9 => h9) rfl dX5_does_91 ?_
      refine lv_aload_n hx hb dX5_does_94 rfl (lv_at hl 0 rfl) ?_
      refine va_get (D := D) (ci := 5) (v := .int (iI ((se1 : Nat) : Int))) (C := RX5) (T := TX5) (N := 17) hx hb hts nX5_does_X5 hown hK hP 0 rfl rfl 12 (by decide) (hts _ kX5_does_158) (fun _ h9 => h9) rfl dX5_does_95 ?_
      refine callVX (n := 2) (As := [.int (iI ((fi1 : Nat) : Int)), .int (iI ((se1 : Nat) : Int))]) (rest := []) (wc := [(hm, .inr (5, [.ref m1, .ref m2, .ref m3, .int (iI ((pa : Nat) : Int)), .int (iI ((pb : Nat) : Int)), .ref m4, .int (iI ((cp : Nat) : Int)), .ref m5, .int (iI ((ty : Nat) : Int)), .ref m6, .int (iI ((nx : Nat) : Int)), .int (iI ((fi1 : Nat) : Int)), .int (iI ((se1 : Nat) : Int)), .int (iI ((le : Nat) : Int)), .ref m7, .int (iI (bp)), .ref m8])), (m1, .inl (cI, 516, .inl (rI (sF cn en ac cu co au er ki bs))))]) (wr := []) (ws2 := fun u => [(hm, .inr (5, [.ref m1, .ref m2, .ref m3, .int (iI ((pa : Nat) : Int)), .int (iI ((pb : Nat) : Int)), .ref m4, .int (iI ((cp : Nat) : Int)), .ref m5, .int (iI ((ty : Nat) : Int)), .ref m6, .int (iI ((nx : Nat) : Int)), .int (iI ((fi1 : Nat) : Int)), .int (iI ((se1 : Nat) : Int)), .int (iI ((le : Nat) : Int)), .ref m7, .int (iI (bp)), .ref m8])), (m1, .inl (cI, 516, .inl (rI (sF cn (en + 1) (ac ||| 2 ^ en) (min cu (cnt (visb (omF au) (erM (visb (omF au) er ac) er fi1 se1 en cn) (ac ||| 2 ^ en)) cn)) co au (erM (visb (omF au) er ac) er fi1 se1 en cn) (up ki en (1)) (up bs en (-1))))))]) S hE hP hD hS hA (m_erases l D cI cB cZ cO s.heap.size hm m1 m2 m3 m4 m5 m6 m7 m8 pa pb cp ty nx (((fi1 : Nat) : Int)) (((se1 : Nat) : Int)) le bp cn en ac cu co au er ki bs fi1 se1 (by first | assumption | (omega)) (by first | assumption | (omega)) (by first | assumption | (omega)) (by first | assumption | (omega)) (by first | assumption | (omega)) (by first | assumption | (omega)) (by first | assumption | (omega)) (by first | assumption | (omega))) gX5_does_X5_erases rfl ⟨rfl, rfl⟩ (by decide +kernel) ⟨Nat.le_of_ble_eq_true rfl, Nat.le_of_ble_eq_true rfl⟩ [0, 1] [] [0, 1] rfl (by decide) rfl (by decide) (by decide) (by decide) (fun u => rfl) 5 0 rfl rfl rfl hl.1 rfl (Nat.le_of_ble_eq_true rfl) dX5_does_98 ⟨Nat.le_of_ble_eq_true rfl, Nat.le_of_ble_eq_true rfl⟩ (fun u u98p H locs hP hD hS => ?_)
      have hP : va_P D vwCl [(hm, .inr (5, [.ref m1, .ref m2, .ref m3, .int (iI ((pa : Nat) : Int)), .int (iI ((pb : Nat) : Int)), .ref m4, .int (iI ((cp : Nat) : Int)), .ref m5, .int (iI ((ty : Nat) : Int)), .ref m6, .int (iI ((nx : Nat) : Int)), .int (iI ((fi1 : Nat) : Int)), .int (iI ((se1 : Nat) : Int)), .int (iI ((le : Nat) : Int)), .ref m7, .int (iI (bp)), .ref m8])), (m1, .inl (cI, 516, .inl (rI (sF cn (en + 1) (ac ||| 2 ^ en) (min cu (cnt (visb (omF au) (erM (visb (omF au) er ac) er fi1 se1 en cn) (ac ||| 2 ^ en)) cn)) co au (erM (visb (omF au) er ac) er fi1 se1 en cn) (up ki en (1)) (up bs en (-1))))))] H := hP
      have hD : va_D A [(hm, .inr (5, [.ref m1, .ref m2, .ref m3, .int (iI ((pa : Nat) : Int)), .int (iI ((pb : Nat) : Int)), .ref m4, .int (iI ((cp : Nat) : Int)), .ref m5, .int (iI ((ty : Nat) : Int)), .ref m6, .int (iI ((nx : Nat) : Int)), .int (iI ((fi1 : Nat) : Int)), .int (iI ((se1 : Nat) : Int)), .int (iI ((le : Nat) : Int)), .ref m7, .int (iI (bp)), .ref m8])), (m1, .inl (cI, 516, .inl (rI (sF cn (en + 1) (ac ||| 2 ^ en) (min cu (cnt (visb (omF au) (erM (visb (omF au) er ac) er fi1 se1 en cn) (ac ||| 2 ^ en)) cn)) co au (erM (visb (omF au) er ac) er fi1 se1 en cn) (up ki en (1)) (up bs en (-1))))))] := hD
      refine W.eq (g2 := F0 m 101 ls [.int (iI ((en : Nat) : Int))]) rfl ?_
      refine r_if_lt (tgt := 108) hx hb (by omega) dX5_does_101 (by decide) (fun c_3 => ?_) (fun c_3 => ?_)
      · skip
        exfalso; omega
      · skip
        refine r_iconst hx hb dX5_does_104 ?_
        refine lv_goto (tgt := 109) hx hb dX5_does_105 (by decide) ?_
        exact r_zretX hx hb hr hlocks hP hD hS () (rfl) (trivial) rfl (Or.inr rfl) dX5_does_109
  · skip
    exact absurd c_1 (by decide)

theorem kX5_does_7 : Cond.fieldLink RX5 7 "PricedUndoModel" "s" "[I" ∈ wsX5_does := List.mem_of_getElem? (i := 5) (by decide +kernel)
set_option maxHeartbeats 4000000 in
set_option maxRecDepth 100000 in
theorem m_does_cu_bad (l : Launch) (D : va_G) (cI cB cZ cO : ClassId) (sz : Nat) (hm : Nat) (m1 : Nat) (m2 : Nat) (m3 : Nat) (m4 : Nat) (m5 : Nat) (m6 : Nat) (m7 : Nat) (m8 : Nat) (pa : Nat) (pb : Nat) (cp : Nat) (ty : Nat) (nx : Nat) (se : Int) (le : Nat) (bp : Int) (cn : Nat) (en : Nat) (ac : Nat) (cu : Nat) (co : Nat → Nat) (au : Nat → Int) (er : Nat → Nat) (ki : Nat → Nat) (bs : Nat → Int) (fi1 : Nat) (hcn : cn ≤ 160) (hac : ac < 65536) (hau : ∀ k, -1 ≤ au k ∧ au k < 16) (her : ∀ k, er k < 65536) (hfi : fi1 < 65536) (hbad : ¬ fi1 ≤ cnt (visb (omF au) er ac) cn) : Met l yX5_does wsX5_does ({ frames := 3, cells := 0, slots := 0, locals := 66 }) (va_Pc [.ref hm, .int (iI 64)] (RW D cI cB cZ cO sz [(hm, .inr (5, [.ref m1, .ref m2, .ref m3, .int (iI ((pa : Nat) : Int)), .int (iI ((pb : Nat) : Int)), .ref m4, .int (iI ((cp : Nat) : Int)), .ref m5, .int (iI ((ty : Nat) : Int)), .ref m6, .int (iI ((nx : Nat) : Int)), .int (iI ((fi1 : Nat) : Int)), .int (iI (se)), .int (iI ((le : Nat) : Int)), .ref m7, .int (iI (bp)), .ref m8])), (m1, .inl (cI, 516, .inl (rI (sF cn en ac cu co au er ki bs))))])) (QX D (S := Unit) (fun u => some (.int (iI 0))) (fun u => True) (fun u => [(hm, .inr (5, [.ref m1, .ref m2, .ref m3, .int (iI ((pa : Nat) : Int)), .int (iI ((pb : Nat) : Int)), .ref m4, .int (iI ((cp : Nat) : Int)), .ref m5, .int (iI ((ty : Nat) : Int)), .ref m6, .int (iI ((nx : Nat) : Int)), .int (iI ((fi1 : Nat) : Int)), .int (iI (se)), .int (iI ((le : Nat) : Int)), .ref m7, .int (iI (bp)), .ref m8])), (m1, .inl (cI, 516, .inl (rI (sF cn en ac cu co au er ki bs))))]) (va_A [(hm, .inr (5, [.ref m1, .ref m2, .ref m3, .int (iI ((pa : Nat) : Int)), .int (iI ((pb : Nat) : Int)), .ref m4, .int (iI ((cp : Nat) : Int)), .ref m5, .int (iI ((ty : Nat) : Int)), .ref m6, .int (iI ((nx : Nat) : Int)), .int (iI ((fi1 : Nat) : Int)), .int (iI (se)), .int (iI ((le : Nat) : Int)), .ref m7, .int (iI (bp)), .ref m8])), (m1, .inl (cI, 516, .inl (rI (sF cn en ac cu co au er ki bs))))] sz)) 0 0 (va_A [(hm, .inr (5, [.ref m1, .ref m2, .ref m3, .int (iI ((pa : Nat) : Int)), .int (iI ((pb : Nat) : Int)), .ref m4, .int (iI ((cp : Nat) : Int)), .ref m5, .int (iI ((ty : Nat) : Int)), .ref m6, .int (iI ((nx : Nat) : Int)), .int (iI ((fi1 : Nat) : Int)), .int (iI (se)), .int (iI ((le : Nat) : Int)), .ref m7, .int (iI (bp)), .ref m8])), (m1, .inl (cI, 516, .inl (rI (sF cn en ac cu co au er ki bs))))] sz) := by
  refine startW (cc := cX5_does) (maxL := 4) (ret := (some .boolean)) (by decide) rfl (Nat.le_of_ble_eq_true rfl) ?_
  intro p e s m below meth c S hr hlocks hE hP A hD hA hS ls hl
  have hx := S.1
  have hb := S.2.1
  have hown := S.2.2.2.1
  have hts := S.2.2.2.2
  have hK := hE.1
  have hl : lv_has ls 4 [(0, .ref hm), (1, .int (iI 64))] := hl
  have hcl := cnt_le (visb (omF au) er ac) cn
  refine lv_iload_n hx hb dX5_does_0 rfl (lv_at hl 1 rfl) ?_
  refine r_bipush hx hb dX5_does_1 (by decide) ?_
  refine r_icmp_ne (tgt := 83) hx hb (⟨by decide, by decide⟩) (⟨by decide, by decide⟩) dX5_does_3 (by decide) (fun c_1 => ?_) (fun c_1 => ?_)
  · skip
    refine lv_iload_n hx hb dX5_does_83 rfl (lv_at hl 1 rfl) ?_
    refine r_bipush hx hb dX5_does_84 (by decide) ?_
    refine r_icmp_ne (tgt := 110) hx hb (⟨by decide, by decide⟩) (⟨by decide, by decide⟩) dX5_does_86 (by decide) (fun c_2 => ?_) (fun c_2 => ?_)
    · skip
      refine lv_iload_n hx hb dX5_does_110 rfl (lv_at hl 1 rfl) ?_
      refine r_bipush hx hb dX5_does_111 (by decide) ?_
      refine r_icmp_ne (tgt := 154) hx hb (⟨by decide, by decide⟩) (⟨by decide, by decide⟩) dX5_does_113 (by decide) (fun c_3 => ?_) (fun c_3 => ?_)
      · skip
        exact absurd c_3 (by decide)
      · skip
        refine lv_aload_n hx hb dX5_does_116 rfl (lv_at hl 0 rfl) ?_
        refine va_get (D := D) (ci := 5) (v := .int (iI ((fi1 : Nat) : Int))) (C := RX5) (T := TX5) (N := 17) hx hb hts nX5_does_X5 hown hK hP 0 rfl rfl 11 (by decide) (hts _ kX5_does_152) (fun _ h9 => h9) rfl dX5_does_117 ?_
        refine r_iconst hx hb dX5_does_120 ?_
        refine lv_aload_n hx hb dX5_does_121 rfl (lv_at hl 0 rfl) ?_
        refine callVO (n := 0) (As := []) (rest := [.int (iI 0), .int (iI ((fi1 : Nat) : Int))]) (wc := [(hm, .inr (5, [.ref m1, .ref m2, .ref m3, .int (iI ((pa : Nat) : Int)), .int (iI ((pb : Nat) : Int)), .ref m4, .int (iI ((cp : Nat) : Int)), .ref m5, .int (iI ((ty : Nat) : Int)), .ref m6, .int (iI ((nx : Nat) : Int)), .int (iI ((fi1 : Nat) : Int)), .int (iI (se)), .int (iI ((le : Nat) : Int)), .ref m7, .int (iI (bp)), .ref m8])), (m1, .inl (cI, 516, .inl (rI (sF cn en ac cu co au er ki bs))))]) S (m_length l D cI cB cZ cO hm m1 m2 m3 m4 m5 m6 m7 m8 pa pb cp ty nx (((fi1 : Nat) : Int)) se le bp cn en ac cu co au er ki bs (by first | assumption | (first | omega | exact bI_f (by omega) | exact bI_t (by omega))) (by first | assumption | (first | omega | exact bI_f (by omega) | exact bI_t (by omega))) (by first | assumption | (first | omega | exact bI_f (by omega) | exact bI_t (by omega))) (by first | assumption | (first | omega | exact bI_f (by omega) | exact bI_t (by omega)))) gX5_does_X5_length rfl ⟨rfl, rfl⟩ (by decide +kernel) ⟨Nat.le_of_ble_eq_true rfl, Nat.le_of_ble_eq_true rfl⟩ hE hP [0, 1] rfl 5 0 rfl rfl rfl hl.1 rfl (Nat.le_of_ble_eq_true rfl) dX5_does_122 ⟨Nat.le_of_ble_eq_true rfl, Nat.le_of_ble_eq_true rfl⟩ ?_
        rw [show (0 : Int) = (0) from by first | omega | exact bI_f (by omega) | exact bI_t (by omega)]
        refine callSO (n := 3) (As := [.int (iI ((fi1 : Nat) : Int)), .int (iI (0)), .int (iI ((cnt (visb (omF au) er ac) cn : Nat) : Int))]) (rest := []) (wc := []) S (m_in l D cI cB cZ cO (((fi1 : Nat) : Int)) 0 (((cnt (visb (omF au) er ac) cn : Nat) : Int)) (by first | assumption | (first | omega | exact bI_f (by omega) | exact bI_t (by omega))) (by first | assumption | (first | omega | exact bI_f (by omega) | exact bI_t (by omega))) (by first | assumption | (first | omega | exact bI_f (by omega) | exact bI_t (by omega)))) gX5_does_X5_in rfl ⟨rfl, rfl⟩ (by decide +kernel) ⟨Nat.le_of_ble_eq_true rfl, Nat.le_of_ble_eq_true rfl⟩ hE hP [] rfl rfl hl.1 rfl (Nat.le_of_ble_eq_true rfl) dX5_does_125 ⟨Nat.le_of_ble_eq_true rfl, Nat.le_of_ble_eq_true rfl⟩ ?_
        refine lv_istore_n (lv' := [(2, .int (iI (bI (0 ≤ (((fi1 : Nat) : Int)) ∧ (((fi1 : Nat) : Int)) ≤ (((cnt (visb (omF au) er ac) cn : Nat) : Int)))))), (0, .ref hm), (1, .int (iI 64))]) hx hb dX5_does_128 rfl hl (by decide) rfl (fun ls hl => ?_)
        refine lv_aload_n hx hb dX5_does_129 rfl (lv_at hl 1 rfl) ?_
        refine va_get (D := D) (ci := 5) (v := .ref m1) (C := RX5) (T := TX5) (N := 17) hx hb hts nX5_does_X5 hown hK hP 0 rfl rfl 0 (by decide) (hts _ kX5_does_7) (fun _ h9 => h9) rfl dX5_does_130 ?_
        refine r_iconst hx hb dX5_does_133 ?_
        refine lv_iload_n hx hb dX5_does_134 rfl (lv_at hl 0 rfl) ?_
        refine r_ifb_eq (tgt := 145) hx hb dX5_does_135 (by decide) (fun c_4 => ?_) (fun c_4 => ?_)
        · skip
          refine lv_aload_n hx hb dX5_does_145 rfl (lv_at hl 1 rfl) ?_
          refine va_get (D := D) (ci := 5) (v := .ref m1) (C := RX5) (T := TX5) (N := 17) hx hb hts nX5_does_X5 hown hK hP 0 rfl rfl 0 (by decide) (hts _ kX5_does_7) (fun _ h9 => h9) rfl dX5_does_146 ?_
          refine r_iconst hx hb dX5_does_149 ?_
          refine r_ialdV (v := ((cu : Nat) : Int)) hx hb hK hP 1 0 rfl rfl (3) (rfl) (by decide) (by decide) (rfl) dX5_does_150 ?_
          refine r_iastV (g := sF cn en ac cu co au er ki bs) (v := ((cu : Nat) : Int)) hx hb hK hP hD hS 1 0 rfl rfl (3) (rfl) (by decide) (by decide) (sF_ucu) dX5_does_151 (fun H locs hP hD hS => ?_)
          have hP : va_P D vwCl [(hm, .inr (5, [.ref m1, .ref m2, .ref m3, .int (iI ((pa : Nat) : Int)), .int (iI ((pb : Nat) : Int)), .ref m4, .int (iI ((cp : Nat) : Int)), .ref m5, .int (iI ((ty : Nat) : Int)), .ref m6, .int (iI ((nx : Nat) : Int)), .int (iI ((fi1 : Nat) : Int)), .int (iI (se)), .int (iI ((le : Nat) : Int)), .ref m7, .int (iI (bp)), .ref m8])), (m1, .inl (cI, 516, .inl (rI (sF cn en ac cu co au er ki bs))))] H := hP
          have hD : va_D A [(hm, .inr (5, [.ref m1, .ref m2, .ref m3, .int (iI ((pa : Nat) : Int)), .int (iI ((pb : Nat) : Int)), .ref m4, .int (iI ((cp : Nat) : Int)), .ref m5, .int (iI ((ty : Nat) : Int)), .ref m6, .int (iI ((nx : Nat) : Int)), .int (iI ((fi1 : Nat) : Int)), .int (iI (se)), .int (iI ((le : Nat) : Int)), .ref m7, .int (iI (bp)), .ref m8])), (m1, .inl (cI, 516, .inl (rI (sF cn en ac cu co au er ki bs))))] := hD
          refine lv_iload_n hx hb dX5_does_152 rfl (lv_at hl 0 rfl) ?_
          exact r_zretX hx hb hr hlocks hP hD hS () (congrArg (fun z => some (Value.int (iI z))) ((by first | omega | exact bI_f (by omega) | exact bI_t (by omega) : (bI (0 ≤ (((fi1 : Nat) : Int)) ∧ (((fi1 : Nat) : Int)) ≤ (((cnt (visb (omF au) er ac) cn : Nat) : Int)))) = 0).symm)) (trivial) rfl (bI_01 _) dX5_does_153
        · skip
          exfalso; omega
    · skip
      exact absurd c_2 (by decide)
  · skip
    exact absurd c_1 (by decide)

set_option maxHeartbeats 4000000 in
set_option maxRecDepth 100000 in
theorem m_does_cu (l : Launch) (D : va_G) (cI cB cZ cO : ClassId) (sz : Nat) (hm : Nat) (m1 : Nat) (m2 : Nat) (m3 : Nat) (m4 : Nat) (m5 : Nat) (m6 : Nat) (m7 : Nat) (m8 : Nat) (pa : Nat) (pb : Nat) (cp : Nat) (ty : Nat) (nx : Nat) (se : Int) (le : Nat) (bp : Int) (cn : Nat) (en : Nat) (ac : Nat) (cu : Nat) (co : Nat → Nat) (au : Nat → Int) (er : Nat → Nat) (ki : Nat → Nat) (bs : Nat → Int) (fi1 : Nat) (hcn : cn ≤ 160) (hac : ac < 65536) (hau : ∀ k, -1 ≤ au k ∧ au k < 16) (her : ∀ k, er k < 65536) (hfi : fi1 < 65536) (hgood : fi1 ≤ cnt (visb (omF au) er ac) cn) : Met l yX5_does wsX5_does ({ frames := 3, cells := 0, slots := 0, locals := 66 }) (va_Pc [.ref hm, .int (iI 64)] (RW D cI cB cZ cO sz [(hm, .inr (5, [.ref m1, .ref m2, .ref m3, .int (iI ((pa : Nat) : Int)), .int (iI ((pb : Nat) : Int)), .ref m4, .int (iI ((cp : Nat) : Int)), .ref m5, .int (iI ((ty : Nat) : Int)), .ref m6, .int (iI ((nx : Nat) : Int)), .int (iI ((fi1 : Nat) : Int)), .int (iI (se)), .int (iI ((le : Nat) : Int)), .ref m7, .int (iI (bp)), .ref m8])), (m1, .inl (cI, 516, .inl (rI (sF cn en ac cu co au er ki bs))))])) (QX D (S := Unit) (fun u => some (.int (iI 1))) (fun u => True) (fun u => [(hm, .inr (5, [.ref m1, .ref m2, .ref m3, .int (iI ((pa : Nat) : Int)), .int (iI ((pb : Nat) : Int)), .ref m4, .int (iI ((cp : Nat) : Int)), .ref m5, .int (iI ((ty : Nat) : Int)), .ref m6, .int (iI ((nx : Nat) : Int)), .int (iI ((fi1 : Nat) : Int)), .int (iI (se)), .int (iI ((le : Nat) : Int)), .ref m7, .int (iI (bp)), .ref m8])), (m1, .inl (cI, 516, .inl (rI (sF cn en ac fi1 co au er ki bs))))]) (va_A [(hm, .inr (5, [.ref m1, .ref m2, .ref m3, .int (iI ((pa : Nat) : Int)), .int (iI ((pb : Nat) : Int)), .ref m4, .int (iI ((cp : Nat) : Int)), .ref m5, .int (iI ((ty : Nat) : Int)), .ref m6, .int (iI ((nx : Nat) : Int)), .int (iI ((fi1 : Nat) : Int)), .int (iI (se)), .int (iI ((le : Nat) : Int)), .ref m7, .int (iI (bp)), .ref m8])), (m1, .inl (cI, 516, .inl (rI (sF cn en ac cu co au er ki bs))))] sz)) 0 0 (va_A [(hm, .inr (5, [.ref m1, .ref m2, .ref m3, .int (iI ((pa : Nat) : Int)), .int (iI ((pb : Nat) : Int)), .ref m4, .int (iI ((cp : Nat) : Int)), .ref m5, .int (iI ((ty : Nat) : Int)), .ref m6, .int (iI ((nx : Nat) : Int)), .int (iI ((fi1 : Nat) : Int)), .int (iI (se)), .int (iI ((le : Nat) : Int)), .ref m7, .int (iI (bp)), .ref m8])), (m1, .inl (cI, 516, .inl (rI (sF cn en ac cu co au er ki bs))))] sz) := by
  refine startW (cc := cX5_does) (maxL := 4) (ret := (some .boolean)) (by decide) rfl (Nat.le_of_ble_eq_true rfl) ?_
  intro p e s m below meth c S hr hlocks hE hP A hD hA hS ls hl
  have hx := S.1
  have hb := S.2.1
  have hown := S.2.2.2.1
  have hts := S.2.2.2.2
  have hK := hE.1
  have hl : lv_has ls 4 [(0, .ref hm), (1, .int (iI 64))] := hl
  have hcl := cnt_le (visb (omF au) er ac) cn
  refine lv_iload_n hx hb dX5_does_0 rfl (lv_at hl 1 rfl) ?_
  refine r_bipush hx hb dX5_does_1 (by decide) ?_
  refine r_icmp_ne (tgt := 83) hx hb (⟨by decide, by decide⟩) (⟨by decide, by decide⟩) dX5_does_3 (by decide) (fun c_1 => ?_) (fun c_1 => ?_)
  · skip
    refine lv_iload_n hx hb dX5_does_83 rfl (lv_at hl 1 rfl) ?_
    refine r_bipush hx hb dX5_does_84 (by decide) ?_
    refine r_icmp_ne (tgt := 110) hx hb (⟨by decide, by decide⟩) (⟨by decide, by decide⟩) dX5_does_86 (by decide) (fun c_2 => ?_) (fun c_2 => ?_)
    · skip
      refine lv_iload_n hx hb dX5_does_110 rfl (lv_at hl 1 rfl) ?_
      refine r_bipush hx hb dX5_does_111 (by decide) ?_
      refine r_icmp_ne (tgt := 154) hx hb (⟨by decide, by decide⟩) (⟨by decide, by decide⟩) dX5_does_113 (by decide) (fun c_3 => ?_) (fun c_3 => ?_)
      · skip
        exact absurd c_3 (by decide)
      · skip
        refine lv_aload_n hx hb dX5_does_116 rfl (lv_at hl 0 rfl) ?_
        refine va_get (D := D) (ci := 5) (v := .int (iI ((fi1 : Nat) : Int))) (C := RX5) (T := TX5) (N := 17) hx hb hts nX5_does_X5 hown hK hP 0 rfl rfl 11 (by decide) (hts _ kX5_does_152) (fun _ h9 => h9) rfl dX5_does_117 ?_
        refine r_iconst hx hb dX5_does_120 ?_
        refine lv_aload_n hx hb dX5_does_121 rfl (lv_at hl 0 rfl) ?_
        refine callVO (n := 0) (As := []) (rest := [.int (iI 0), .int (iI ((fi1 : Nat) : Int))]) (wc := [(hm, .inr (5, [.ref m1, .ref m2, .ref m3, .int (iI ((pa : Nat) : Int)), .int (iI ((pb : Nat) : Int)), .ref m4, .int (iI ((cp : Nat) : Int)), .ref m5, .int (iI ((ty : Nat) : Int)), .ref m6, .int (iI ((nx : Nat) : Int)), .int (iI ((fi1 : Nat) : Int)), .int (iI (se)), .int (iI ((le : Nat) : Int)), .ref m7, .int (iI (bp)), .ref m8])), (m1, .inl (cI, 516, .inl (rI (sF cn en ac cu co au er ki bs))))]) S (m_length l D cI cB cZ cO hm m1 m2 m3 m4 m5 m6 m7 m8 pa pb cp ty nx (((fi1 : Nat) : Int)) se le bp cn en ac cu co au er ki bs (by first | assumption | (first | omega | exact bI_f (by omega) | exact bI_t (by omega))) (by first | assumption | (first | omega | exact bI_f (by omega) | exact bI_t (by omega))) (by first | assumption | (first | omega | exact bI_f (by omega) | exact bI_t (by omega))) (by first | assumption | (first | omega | exact bI_f (by omega) | exact bI_t (by omega)))) gX5_does_X5_length rfl ⟨rfl, rfl⟩ (by decide +kernel) ⟨Nat.le_of_ble_eq_true rfl, Nat.le_of_ble_eq_true rfl⟩ hE hP [0, 1] rfl 5 0 rfl rfl rfl hl.1 rfl (Nat.le_of_ble_eq_true rfl) dX5_does_122 ⟨Nat.le_of_ble_eq_true rfl, Nat.le_of_ble_eq_true rfl⟩ ?_
        rw [show (0 : Int) = (0) from by first | omega | exact bI_f (by omega) | exact bI_t (by omega)]
        refine callSO (n := 3) (As := [.int (iI ((fi1 : Nat) : Int)), .int (iI (0)), .int (iI ((cnt (visb (omF au) er ac) cn : Nat) : Int))]) (rest := []) (wc := []) S (m_in l D cI cB cZ cO (((fi1 : Nat) : Int)) 0 (((cnt (visb (omF au) er ac) cn : Nat) : Int)) (by first | assumption | (first | omega | exact bI_f (by omega) | exact bI_t (by omega))) (by first | assumption | (first | omega | exact bI_f (by omega) | exact bI_t (by omega))) (by first | assumption | (first | omega | exact bI_f (by omega) | exact bI_t (by omega)))) gX5_does_X5_in rfl ⟨rfl, rfl⟩ (by decide +kernel) ⟨Nat.le_of_ble_eq_true rfl, Nat.le_of_ble_eq_true rfl⟩ hE hP [] rfl rfl hl.1 rfl (Nat.le_of_ble_eq_true rfl) dX5_does_125 ⟨Nat.le_of_ble_eq_true rfl, Nat.le_of_ble_eq_true rfl⟩ ?_
        refine lv_istore_n (lv' := [(2, .int (iI (bI (0 ≤ (((fi1 : Nat) : Int)) ∧ (((fi1 : Nat) : Int)) ≤ (((cnt (visb (omF au) er ac) cn : Nat) : Int)))))), (0, .ref hm), (1, .int (iI 64))]) hx hb dX5_does_128 rfl hl (by decide) rfl (fun ls hl => ?_)
        refine lv_aload_n hx hb dX5_does_129 rfl (lv_at hl 1 rfl) ?_
        refine va_get (D := D) (ci := 5) (v := .ref m1) (C := RX5) (T := TX5) (N := 17) hx hb hts nX5_does_X5 hown hK hP 0 rfl rfl 0 (by decide) (hts _ kX5_does_7) (fun _ h9 => h9) rfl dX5_does_130 ?_
        refine r_iconst hx hb dX5_does_133 ?_
        refine lv_iload_n hx hb dX5_does_134 rfl (lv_at hl 0 rfl) ?_
        refine r_ifb_eq (tgt := 145) hx hb dX5_does_135 (by decide) (fun c_4 => ?_) (fun c_4 => ?_)
        · skip
          exfalso; omega
        · skip
          refine lv_aload_n hx hb dX5_does_138 rfl (lv_at hl 1 rfl) ?_
          refine va_get (D := D) (ci := 5) (v := .int (iI ((fi1 : Nat) : Int))) (C := RX5) (T := TX5) (N := 17) hx hb hts nX5_does_X5 hown hK hP 0 rfl rfl 11 (by decide) (hts _ kX5_does_152) (fun _ h9 => h9) rfl dX5_does_139 ?_
          refine lv_goto (tgt := 151) hx hb dX5_does_142 (by decide) ?_
          refine r_iastV (g := sF cn en ac fi1 co au er ki bs) (v := ((fi1 : Nat) : Int)) hx hb hK hP hD hS 1 0 rfl rfl (3) (rfl) (by decide) (by decide) (sF_ucu) dX5_does_151 (fun H locs hP hD hS => ?_)
          have hP : va_P D vwCl [(hm, .inr (5, [.ref m1, .ref m2, .ref m3, .int (iI ((pa : Nat) : Int)), .int (iI ((pb : Nat) : Int)), .ref m4, .int (iI ((cp : Nat) : Int)), .ref m5, .int (iI ((ty : Nat) : Int)), .ref m6, .int (iI ((nx : Nat) : Int)), .int (iI ((fi1 : Nat) : Int)), .int (iI (se)), .int (iI ((le : Nat) : Int)), .ref m7, .int (iI (bp)), .ref m8])), (m1, .inl (cI, 516, .inl (rI (sF cn en ac fi1 co au er ki bs))))] H := hP
          have hD : va_D A [(hm, .inr (5, [.ref m1, .ref m2, .ref m3, .int (iI ((pa : Nat) : Int)), .int (iI ((pb : Nat) : Int)), .ref m4, .int (iI ((cp : Nat) : Int)), .ref m5, .int (iI ((ty : Nat) : Int)), .ref m6, .int (iI ((nx : Nat) : Int)), .int (iI ((fi1 : Nat) : Int)), .int (iI (se)), .int (iI ((le : Nat) : Int)), .ref m7, .int (iI (bp)), .ref m8])), (m1, .inl (cI, 516, .inl (rI (sF cn en ac fi1 co au er ki bs))))] := hD
          refine lv_iload_n hx hb dX5_does_152 rfl (lv_at hl 0 rfl) ?_
          exact r_zretX hx hb hr hlocks hP hD hS () (congrArg (fun z => some (Value.int (iI z))) ((by first | omega | exact bI_f (by omega) | exact bI_t (by omega) : (bI (0 ≤ (((fi1 : Nat) : Int)) ∧ (((fi1 : Nat) : Int)) ≤ (((cnt (visb (omF au) er ac) cn : Nat) : Int)))) = 1).symm)) (trivial) rfl (bI_01 _) dX5_does_153
    · skip
      exact absurd c_2 (by decide)
  · skip
    exact absurd c_1 (by decide)

set_option maxHeartbeats 4000000 in
set_option maxRecDepth 100000 in
theorem m_does_lt_bad (l : Launch) (D : va_G) (cI cB cZ cO : ClassId) (hm : Nat) (m1 : Nat) (m2 : Nat) (m3 : Nat) (m4 : Nat) (m5 : Nat) (m6 : Nat) (m7 : Nat) (m8 : Nat) (pa : Nat) (pb : Nat) (cp : Nat) (ty : Nat) (nx : Nat) (se : Int) (le : Nat) (bp : Int) (cn : Nat) (en : Nat) (ac : Nat) (cu : Nat) (co : Nat → Nat) (au : Nat → Int) (er : Nat → Nat) (ki : Nat → Nat) (bs : Nat → Int) (fi1 : Nat) (hcn : cn ≤ 160) (hac : ac < 65536) (hau : ∀ k, -1 ≤ au k ∧ au k < 16) (her : ∀ k, er k < 65536) (hen : en ≤ 16) (hfi : fi1 < 65536) (hbad : ¬ fi1 < en) : Met l yX5_does wsX5_does ({ frames := 2, cells := 0, slots := 0, locals := 43 }) (va_Pc [.ref hm, .int (iI 60)] (RO D cI cB cZ cO [(hm, .inr (5, [.ref m1, .ref m2, .ref m3, .int (iI ((pa : Nat) : Int)), .int (iI ((pb : Nat) : Int)), .ref m4, .int (iI ((cp : Nat) : Int)), .ref m5, .int (iI ((ty : Nat) : Int)), .ref m6, .int (iI ((nx : Nat) : Int)), .int (iI ((fi1 : Nat) : Int)), .int (iI (se)), .int (iI ((le : Nat) : Int)), .ref m7, .int (iI (bp)), .ref m8])), (m1, .inl (cI, 516, .inl (rI (sF cn en ac cu co au er ki bs))))])) (QO 0) 0 0 (fun _ => False) := by
  refine startO (cc := cX5_does) (maxL := 4) (ret := (some .boolean)) (by decide) rfl (Nat.le_of_ble_eq_true rfl) ?_
  intro p e s m below meth c S hr hlocks hE hP ls hl
  have hx := S.1
  have hb := S.2.1
  have hown := S.2.2.2.1
  have hts := S.2.2.2.2
  have hK := hE.1
  have hl : lv_has ls 4 [(0, .ref hm), (1, .int (iI 60))] := hl
  refine lv_iload_n hx hb dX5_does_0 rfl (lv_at hl 1 rfl) ?_
  refine r_bipush hx hb dX5_does_1 (by decide) ?_
  refine r_icmp_ne (tgt := 83) hx hb (⟨by decide, by decide⟩) (⟨by decide, by decide⟩) dX5_does_3 (by decide) (fun c_1 => ?_) (fun c_1 => ?_)
  · skip
    refine lv_iload_n hx hb dX5_does_83 rfl (lv_at hl 1 rfl) ?_
    refine r_bipush hx hb dX5_does_84 (by decide) ?_
    refine r_icmp_ne (tgt := 110) hx hb (⟨by decide, by decide⟩) (⟨by decide, by decide⟩) dX5_does_86 (by decide) (fun c_2 => ?_) (fun c_2 => ?_)
    · skip
      refine lv_iload_n hx hb dX5_does_110 rfl (lv_at hl 1 rfl) ?_
      refine r_bipush hx hb dX5_does_111 (by decide) ?_
      refine r_icmp_ne (tgt := 154) hx hb (⟨by decide, by decide⟩) (⟨by decide, by decide⟩) dX5_does_113 (by decide) (fun c_3 => ?_) (fun c_3 => ?_)
      · skip
        refine lv_aload_n hx hb dX5_does_154 rfl (lv_at hl 0 rfl) ?_
        refine lv_aload_n hx hb dX5_does_155 rfl (lv_at hl 0 rfl) ?_
        refine va_get (D := D) (ci := 5) (v := .int (iI ((fi1 : Nat) : Int))) (C := RX5) (T := TX5) (N := 17) hx hb hts nX5_does_X5 hown hK hP 0 rfl rfl 11 (by decide) (hts _ kX5_does_152) (fun _ h9 => h9) rfl dX5_does_156 ?_
        refine callVO (n := 1) (As := [.int (iI ((fi1 : Nat) : Int))]) (rest := []) (wc := [(hm, .inr (5, [.ref m1, .ref m2, .ref m3, .int (iI ((pa : Nat) : Int)), .int (iI ((pb : Nat) : Int)), .ref m4, .int (iI ((cp : Nat) : Int)), .ref m5, .int (iI ((ty : Nat) : Int)), .ref m6, .int (iI ((nx : Nat) : Int)), .int (iI ((fi1 : Nat) : Int)), .int (iI (se)), .int (iI ((le : Nat) : Int)), .ref m7, .int (iI (bp)), .ref m8])), (m1, .inl (cI, 516, .inl (rI (sF cn en ac cu co au er ki bs))))]) S (m_isEdit l D cI cB cZ cO hm m1 m2 m3 m4 m5 m6 m7 m8 pa pb cp ty nx (((fi1 : Nat) : Int)) se le bp cn en ac cu co au er ki bs (((fi1 : Nat) : Int)) (by first | assumption | (omega)) (by first | assumption | (omega))) gX5_does_X5_isEdit rfl ⟨rfl, rfl⟩ (by decide +kernel) ⟨Nat.le_of_ble_eq_true rfl, Nat.le_of_ble_eq_true rfl⟩ hE hP [0, 1] rfl 5 0 rfl rfl rfl hl.1 rfl (Nat.le_of_ble_eq_true rfl) dX5_does_159 ⟨Nat.le_of_ble_eq_true rfl, Nat.le_of_ble_eq_true rfl⟩ ?_
        refine r_ifb_eq (tgt := 187) hx hb dX5_does_162 (by decide) (fun c_4 => ?_) (fun c_4 => ?_)
        · skip
          refine r_iconst hx hb dX5_does_187 ?_
          exact r_zretO hx hb hr hlocks (rfl) (Or.inl rfl) dX5_does_188
        · skip
          exfalso; omega
      · skip
        exact absurd c_3 (by decide)
    · skip
      exact absurd c_2 (by decide)
  · skip
    exact absurd c_1 (by decide)

set_option maxHeartbeats 4000000 in
set_option maxRecDepth 100000 in
theorem m_does_lt_no (l : Launch) (D : va_G) (cI cB cZ cO : ClassId) (hm : Nat) (m1 : Nat) (m2 : Nat) (m3 : Nat) (m4 : Nat) (m5 : Nat) (m6 : Nat) (m7 : Nat) (m8 : Nat) (pa : Nat) (pb : Nat) (cp : Nat) (ty : Nat) (nx : Nat) (se : Int) (le : Nat) (bp : Int) (cn : Nat) (en : Nat) (ac : Nat) (cu : Nat) (co : Nat → Nat) (au : Nat → Int) (er : Nat → Nat) (ki : Nat → Nat) (bs : Nat → Int) (fi1 : Nat) (hcn : cn ≤ 160) (hac : ac < 65536) (hau : ∀ k, -1 ≤ au k ∧ au k < 16) (her : ∀ k, er k < 65536) (hen : en ≤ 16) (hfe : fi1 < en) (hna : ¬ ac.testBit fi1 = true) : Met l yX5_does wsX5_does ({ frames := 2, cells := 0, slots := 0, locals := 43 }) (va_Pc [.ref hm, .int (iI 60)] (RO D cI cB cZ cO [(hm, .inr (5, [.ref m1, .ref m2, .ref m3, .int (iI ((pa : Nat) : Int)), .int (iI ((pb : Nat) : Int)), .ref m4, .int (iI ((cp : Nat) : Int)), .ref m5, .int (iI ((ty : Nat) : Int)), .ref m6, .int (iI ((nx : Nat) : Int)), .int (iI ((fi1 : Nat) : Int)), .int (iI (se)), .int (iI ((le : Nat) : Int)), .ref m7, .int (iI (bp)), .ref m8])), (m1, .inl (cI, 516, .inl (rI (sF cn en ac cu co au er ki bs))))])) (QO 0) 0 0 (fun _ => False) := by
  refine startO (cc := cX5_does) (maxL := 4) (ret := (some .boolean)) (by decide) rfl (Nat.le_of_ble_eq_true rfl) ?_
  intro p e s m below meth c S hr hlocks hE hP ls hl
  have hx := S.1
  have hb := S.2.1
  have hown := S.2.2.2.1
  have hts := S.2.2.2.2
  have hK := hE.1
  have hl : lv_has ls 4 [(0, .ref hm), (1, .int (iI 60))] := hl
  have hbi := bI_f (P := ac.testBit fi1 = true) hna
  refine lv_iload_n hx hb dX5_does_0 rfl (lv_at hl 1 rfl) ?_
  refine r_bipush hx hb dX5_does_1 (by decide) ?_
  refine r_icmp_ne (tgt := 83) hx hb (⟨by decide, by decide⟩) (⟨by decide, by decide⟩) dX5_does_3 (by decide) (fun c_1 => ?_) (fun c_1 => ?_)
  · skip
    refine lv_iload_n hx hb dX5_does_83 rfl (lv_at hl 1 rfl) ?_
    refine r_bipush hx hb dX5_does_84 (by decide) ?_
    refine r_icmp_ne (tgt := 110) hx hb (⟨by decide, by decide⟩) (⟨by decide, by decide⟩) dX5_does_86 (by decide) (fun c_2 => ?_) (fun c_2 => ?_)
    · skip
      refine lv_iload_n hx hb dX5_does_110 rfl (lv_at hl 1 rfl) ?_
      refine r_bipush hx hb dX5_does_111 (by decide) ?_
      refine r_icmp_ne (tgt := 154) hx hb (⟨by decide, by decide⟩) (⟨by decide, by decide⟩) dX5_does_113 (by decide) (fun c_3 => ?_) (fun c_3 => ?_)
      · skip
        refine lv_aload_n hx hb dX5_does_154 rfl (lv_at hl 0 rfl) ?_
        refine lv_aload_n hx hb dX5_does_155 rfl (lv_at hl 0 rfl) ?_
        refine va_get (D := D) (ci := 5) (v := .int (iI ((fi1 : Nat) : Int))) (C := RX5) (T := TX5) (N := 17) hx hb hts nX5_does_X5 hown hK hP 0 rfl rfl 11 (by decide) (hts _ kX5_does_152) (fun _ h9 => h9) rfl dX5_does_156 ?_
        refine callVO (n := 1) (As := [.int (iI ((fi1 : Nat) : Int))]) (rest := []) (wc := [(hm, .inr (5, [.ref m1, .ref m2, .ref m3, .int (iI ((pa : Nat) : Int)), .int (iI ((pb : Nat) : Int)), .ref m4, .int (iI ((cp : Nat) : Int)), .ref m5, .int (iI ((ty : Nat) : Int)), .ref m6, .int (iI ((nx : Nat) : Int)), .int (iI ((fi1 : Nat) : Int)), .int (iI (se)), .int (iI ((le : Nat) : Int)), .ref m7, .int (iI (bp)), .ref m8])), (m1, .inl (cI, 516, .inl (rI (sF cn en ac cu co au er ki bs))))]) S (m_isEdit l D cI cB cZ cO hm m1 m2 m3 m4 m5 m6 m7 m8 pa pb cp ty nx (((fi1 : Nat) : Int)) se le bp cn en ac cu co au er ki bs (((fi1 : Nat) : Int)) (by first | assumption | (omega)) (by first | assumption | (omega))) gX5_does_X5_isEdit rfl ⟨rfl, rfl⟩ (by decide +kernel) ⟨Nat.le_of_ble_eq_true rfl, Nat.le_of_ble_eq_true rfl⟩ hE hP [0, 1] rfl 5 0 rfl rfl rfl hl.1 rfl (Nat.le_of_ble_eq_true rfl) dX5_does_159 ⟨Nat.le_of_ble_eq_true rfl, Nat.le_of_ble_eq_true rfl⟩ ?_
        refine r_ifb_eq (tgt := 187) hx hb dX5_does_162 (by decide) (fun c_4 => ?_) (fun c_4 => ?_)
        · skip
          refine r_iconst hx hb dX5_does_187 ?_
          exact r_zretO hx hb hr hlocks (rfl) (Or.inl rfl) dX5_does_188
        · skip
          refine lv_aload_n hx hb dX5_does_165 rfl (lv_at hl 0 rfl) ?_
          refine lv_aload_n hx hb dX5_does_166 rfl (lv_at hl 0 rfl) ?_
          refine va_get (D := D) (ci := 5) (v := .int (iI ((fi1 : Nat) : Int))) (C := RX5) (T := TX5) (N := 17) hx hb hts nX5_does_X5 hown hK hP 0 rfl rfl 11 (by decide) (hts _ kX5_does_152) (fun _ h9 => h9) rfl dX5_does_167 ?_
          refine callVO (n := 1) (As := [.int (iI ((fi1 : Nat) : Int))]) (rest := []) (wc := [(hm, .inr (5, [.ref m1, .ref m2, .ref m3, .int (iI ((pa : Nat) : Int)), .int (iI ((pb : Nat) : Int)), .ref m4, .int (iI ((cp : Nat) : Int)), .ref m5, .int (iI ((ty : Nat) : Int)), .ref m6, .int (iI ((nx : Nat) : Int)), .int (iI ((fi1 : Nat) : Int)), .int (iI (se)), .int (iI ((le : Nat) : Int)), .ref m7, .int (iI (bp)), .ref m8])), (m1, .inl (cI, 516, .inl (rI (sF cn en ac cu co au er ki bs))))]) S (m_isActive l D cI cB cZ cO hm m1 m2 m3 m4 m5 m6 m7 m8 pa pb cp ty nx (((fi1 : Nat) : Int)) se le bp cn en ac cu co au er ki bs fi1 (by first | assumption | (omega)) (by first | assumption | (omega))) gX5_does_X5_isActive rfl ⟨rfl, rfl⟩ (by decide +kernel) ⟨Nat.le_of_ble_eq_true rfl, Nat.le_of_ble_eq_true rfl⟩ hE hP [0, 1] rfl 5 0 rfl rfl rfl hl.1 rfl (Nat.le_of_ble_eq_true rfl) dX5_does_170 ⟨Nat.le_of_ble_eq_true rfl, Nat.le_of_ble_eq_true rfl⟩ ?_
          refine lv_iload_n hx hb dX5_does_173 rfl (lv_at hl 1 rfl) ?_
          refine r_bipush hx hb dX5_does_174 (by decide) ?_
          refine r_icmp_ne (tgt := 183) hx hb (⟨by decide, by decide⟩) (⟨by decide, by decide⟩) dX5_does_176 (by decide) (fun c_5 => ?_) (fun c_5 => ?_)
          · skip
            exact absurd c_5 (by decide)
          · skip
            refine r_iconst hx hb dX5_does_179 ?_
            refine lv_goto (tgt := 184) hx hb dX5_does_180 (by decide) ?_
            refine r_icmp_eq (tgt := 189) hx hb (rg_b _) (⟨by decide, by decide⟩) dX5_does_184 (by decide) (fun c_6 => ?_) (fun c_6 => ?_)
            · skip
              exfalso; omega
            · skip
              refine r_iconst hx hb dX5_does_187 ?_
              exact r_zretO hx hb hr hlocks (rfl) (Or.inl rfl) dX5_does_188
      · skip
        exact absurd c_3 (by decide)
    · skip
      exact absurd c_2 (by decide)
  · skip
    exact absurd c_1 (by decide)

set_option maxHeartbeats 4000000 in
set_option maxRecDepth 100000 in
theorem m_does_lt_full (l : Launch) (D : va_G) (cI cB cZ cO : ClassId) (sz : Nat) (hm : Nat) (m1 : Nat) (m2 : Nat) (m3 : Nat) (m4 : Nat) (m5 : Nat) (m6 : Nat) (m7 : Nat) (m8 : Nat) (pa : Nat) (pb : Nat) (cp : Nat) (ty : Nat) (nx : Nat) (se : Int) (le : Nat) (bp : Int) (cn : Nat) (en : Nat) (ac : Nat) (cu : Nat) (co : Nat → Nat) (au : Nat → Int) (er : Nat → Nat) (ki : Nat → Nat) (bs : Nat → Int) (re : Nat → Nat) (ba : Nat → Nat) (fi1 : Nat) (hcn : cn ≤ 160) (hen : en ≤ 16) (hau : ∀ k, -1 ≤ au k ∧ au k < 16) (her : ∀ k, er k < 65536) (hbs : ∀ k, -1 ≤ bs k ∧ bs k < 16) (hki : ∀ k, ki k ≤ 1) (hre : ∀ k, re k < 65536) (hrq : RQ au er ki bs cn en ba) (hac : ac < 65536) (hba : ∀ k, ba k < 65536) (hfe : fi1 < en) (hna : ac.testBit fi1 = true) (hfull : 60 < cnt (visb (omF au) er (nd ac (2 ^ fi1 ||| (dep ba en (2 ^ fi1) &&& ac)))) cn) : Met l yX5_does wsX5_does ({ frames := 3, cells := 0, slots := 0, locals := 68 }) (va_Pc [.ref hm, .int (iI 60)] (RW D cI cB cZ cO sz [(hm, .inr (5, [.ref m1, .ref m2, .ref m3, .int (iI ((pa : Nat) : Int)), .int (iI ((pb : Nat) : Int)), .ref m4, .int (iI ((cp : Nat) : Int)), .ref m5, .int (iI ((ty : Nat) : Int)), .ref m6, .int (iI ((nx : Nat) : Int)), .int (iI ((fi1 : Nat) : Int)), .int (iI (se)), .int (iI ((le : Nat) : Int)), .ref m7, .int (iI (bp)), .ref m8])), (m1, .inl (cI, 516, .inl (rI (sF cn en ac cu co au er ki bs)))), (m6, .inl (cI, 16, .inl (rN (re))))])) (QX D (S := (Nat → Nat)) (fun u => some (.int (iI 0))) (fun u => (∀ k, u k < 65536)) (fun u => [(hm, .inr (5, [.ref m1, .ref m2, .ref m3, .int (iI ((pa : Nat) : Int)), .int (iI ((pb : Nat) : Int)), .ref m4, .int (iI ((cp : Nat) : Int)), .ref m5, .int (iI ((ty : Nat) : Int)), .ref m6, .int (iI ((nx : Nat) : Int)), .int (iI ((fi1 : Nat) : Int)), .int (iI (se)), .int (iI ((le : Nat) : Int)), .ref m7, .int (iI (bp)), .ref m8])), (m1, .inl (cI, 516, .inl (rI (sF cn en ac cu co au er ki bs)))), (m6, .inl (cI, 16, .inl (rN (u))))]) (va_A [(hm, .inr (5, [.ref m1, .ref m2, .ref m3, .int (iI ((pa : Nat) : Int)), .int (iI ((pb : Nat) : Int)), .ref m4, .int (iI ((cp : Nat) : Int)), .ref m5, .int (iI ((ty : Nat) : Int)), .ref m6, .int (iI ((nx : Nat) : Int)), .int (iI ((fi1 : Nat) : Int)), .int (iI (se)), .int (iI ((le : Nat) : Int)), .ref m7, .int (iI (bp)), .ref m8])), (m1, .inl (cI, 516, .inl (rI (sF cn en ac cu co au er ki bs)))), (m6, .inl (cI, 16, .inl (rN (re))))] sz)) 0 0 (va_A [(hm, .inr (5, [.ref m1, .ref m2, .ref m3, .int (iI ((pa : Nat) : Int)), .int (iI ((pb : Nat) : Int)), .ref m4, .int (iI ((cp : Nat) : Int)), .ref m5, .int (iI ((ty : Nat) : Int)), .ref m6, .int (iI ((nx : Nat) : Int)), .int (iI ((fi1 : Nat) : Int)), .int (iI (se)), .int (iI ((le : Nat) : Int)), .ref m7, .int (iI (bp)), .ref m8])), (m1, .inl (cI, 516, .inl (rI (sF cn en ac cu co au er ki bs)))), (m6, .inl (cI, 16, .inl (rN (re))))] sz) := by
  refine startW (cc := cX5_does) (maxL := 4) (ret := (some .boolean)) (by decide) rfl (Nat.le_of_ble_eq_true rfl) ?_
  intro p e s m below meth c S hr hlocks hE hP A hD hA hS ls hl
  have hx := S.1
  have hb := S.2.1
  have hown := S.2.2.2.1
  have hts := S.2.2.2.2
  have hK := hE.1
  have hl : lv_has ls 4 [(0, .ref hm), (1, .int (iI 60))] := hl
  have hbi := bI_t (P := ac.testBit fi1 = true) hna
  have hp2 := pow_le16 hen
  have hcl9 : 2 ^ fi1 ||| (dep ba en (2 ^ fi1) &&& ac) < 65536 := or16 (pow16 (by omega)) (Nat.lt_of_le_of_lt Nat.and_le_right hac)
  refine lv_iload_n hx hb dX5_does_0 rfl (lv_at hl 1 rfl) ?_
  refine r_bipush hx hb dX5_does_1 (by decide) ?_
  refine r_icmp_ne (tgt := 83) hx hb (⟨by decide, by decide⟩) (⟨by decide, by decide⟩) dX5_does_3 (by decide) (fun c_1 => ?_) (fun c_1 => ?_)
  · skip
    refine lv_iload_n hx hb dX5_does_83 rfl (lv_at hl 1 rfl) ?_
    refine r_bipush hx hb dX5_does_84 (by decide) ?_
    refine r_icmp_ne (tgt := 110) hx hb (⟨by decide, by decide⟩) (⟨by decide, by decide⟩) dX5_does_86 (by decide) (fun c_2 => ?_) (fun c_2 => ?_)
    · skip
      refine lv_iload_n hx hb dX5_does_110 rfl (lv_at hl 1 rfl) ?_
      refine r_bipush hx hb dX5_does_111 (by decide) ?_
      refine r_icmp_ne (tgt := 154) hx hb (⟨by decide, by decide⟩) (⟨by decide, by decide⟩) dX5_does_113 (by decide) (fun c_3 => ?_) (fun c_3 => ?_)
      · skip
        refine lv_aload_n hx hb dX5_does_154 rfl (lv_at hl 0 rfl) ?_
        refine lv_aload_n hx hb dX5_does_155 rfl (lv_at hl 0 rfl) ?_
        refine va_get (D := D) (ci := 5) (v := .int (iI ((fi1 : Nat) : Int))) (C := RX5) (T := TX5) (N := 17) hx hb hts nX5_does_X5 hown hK hP 0 rfl rfl 11 (by decide) (hts _ kX5_does_152) (fun _ h9 => h9) rfl dX5_does_156 ?_
        refine callVO (n := 1) (As := [.int (iI ((fi1 : Nat) : Int))]) (rest := []) (wc := [(hm, .inr (5, [.ref m1, .ref m2, .ref m3, .int (iI ((pa : Nat) : Int)), .int (iI ((pb : Nat) : Int)), .ref m4, .int (iI ((cp : Nat) : Int)), .ref m5, .int (iI ((ty : Nat) : Int)), .ref m6, .int (iI ((nx : Nat) : Int)), .int (iI ((fi1 : Nat) : Int)), .int (iI (se)), .int (iI ((le : Nat) : Int)), .ref m7, .int (iI (bp)), .ref m8])), (m1, .inl (cI, 516, .inl (rI (sF cn en ac cu co au er ki bs))))]) S (m_isEdit l D cI cB cZ cO hm m1 m2 m3 m4 m5 m6 m7 m8 pa pb cp ty nx (((fi1 : Nat) : Int)) se le bp cn en ac cu co au er ki bs (((fi1 : Nat) : Int)) (by first | assumption | (omega)) (by first | assumption | (omega))) gX5_does_X5_isEdit rfl ⟨rfl, rfl⟩ (by decide +kernel) ⟨Nat.le_of_ble_eq_true rfl, Nat.le_of_ble_eq_true rfl⟩ hE hP [0, 1] rfl 5 0 rfl rfl rfl hl.1 rfl (Nat.le_of_ble_eq_true rfl) dX5_does_159 ⟨Nat.le_of_ble_eq_true rfl, Nat.le_of_ble_eq_true rfl⟩ ?_
        refine r_ifb_eq (tgt := 187) hx hb dX5_does_162 (by decide) (fun c_4 => ?_) (fun c_4 => ?_)
        · skip
          exfalso; omega
        · skip
          refine lv_aload_n hx hb dX5_does_165 rfl (lv_at hl 0 rfl) ?_
          refine lv_aload_n hx hb dX5_does_166 rfl (lv_at hl 0 rfl) ?_
          refine va_get (D := D) (ci := 5) (v := .int (iI ((fi1 : Nat) : Int))) (C := RX5) (T := TX5) (N := 17) hx hb hts nX5_does_X5 hown hK hP 0 rfl rfl 11 (by decide) (hts _ kX5_does_152) (fun _ h9 => h9) rfl dX5_does_167 ?_
          refine callVO (n := 1) (As := [.int (iI ((fi1 : Nat) : Int))]) (rest := []) (wc := [(hm, .inr (5, [.ref m1, .ref m2, .ref m3, .int (iI ((pa : Nat) : Int)), .int (iI ((pb : Nat) : Int)), .ref m4, .int (iI ((cp : Nat) : Int)), .ref m5, .int (iI ((ty : Nat) : Int)), .ref m6, .int (iI ((nx : Nat) : Int)), .int (iI ((fi1 : Nat) : Int)), .int (iI (se)), .int (iI ((le : Nat) : Int)), .ref m7, .int (iI (bp)), .ref m8])), (m1, .inl (cI, 516, .inl (rI (sF cn en ac cu co au er ki bs))))]) S (m_isActive l D cI cB cZ cO hm m1 m2 m3 m4 m5 m6 m7 m8 pa pb cp ty nx (((fi1 : Nat) : Int)) se le bp cn en ac cu co au er ki bs fi1 (by first | assumption | (omega)) (by first | assumption | (omega))) gX5_does_X5_isActive rfl ⟨rfl, rfl⟩ (by decide +kernel) ⟨Nat.le_of_ble_eq_true rfl, Nat.le_of_ble_eq_true rfl⟩ hE hP [0, 1] rfl 5 0 rfl rfl rfl hl.1 rfl (Nat.le_of_ble_eq_true rfl) dX5_does_170 ⟨Nat.le_of_ble_eq_true rfl, Nat.le_of_ble_eq_true rfl⟩ ?_
          refine lv_iload_n hx hb dX5_does_173 rfl (lv_at hl 1 rfl) ?_
          refine r_bipush hx hb dX5_does_174 (by decide) ?_
          refine r_icmp_ne (tgt := 183) hx hb (⟨by decide, by decide⟩) (⟨by decide, by decide⟩) dX5_does_176 (by decide) (fun c_5 => ?_) (fun c_5 => ?_)
          · skip
            exact absurd c_5 (by decide)
          · skip
            refine r_iconst hx hb dX5_does_179 ?_
            refine lv_goto (tgt := 184) hx hb dX5_does_180 (by decide) ?_
            refine r_icmp_eq (tgt := 189) hx hb (rg_b _) (⟨by decide, by decide⟩) dX5_does_184 (by decide) (fun c_6 => ?_) (fun c_6 => ?_)
            · skip
              refine lv_aload_n hx hb dX5_does_189 rfl (lv_at hl 0 rfl) ?_
              refine callVX (n := 0) (As := []) (rest := []) (wc := [(hm, .inr (5, [.ref m1, .ref m2, .ref m3, .int (iI ((pa : Nat) : Int)), .int (iI ((pb : Nat) : Int)), .ref m4, .int (iI ((cp : Nat) : Int)), .ref m5, .int (iI ((ty : Nat) : Int)), .ref m6, .int (iI ((nx : Nat) : Int)), .int (iI ((fi1 : Nat) : Int)), .int (iI (se)), .int (iI ((le : Nat) : Int)), .ref m7, .int (iI (bp)), .ref m8])), (m1, .inl (cI, 516, .inl (rI (sF cn en ac cu co au er ki bs)))), (m6, .inl (cI, 16, .inl (rN (re))))]) (wr := []) (ws2 := fun u => [(hm, .inr (5, [.ref m1, .ref m2, .ref m3, .int (iI ((pa : Nat) : Int)), .int (iI ((pb : Nat) : Int)), .ref m4, .int (iI ((cp : Nat) : Int)), .ref m5, .int (iI ((ty : Nat) : Int)), .ref m6, .int (iI ((nx : Nat) : Int)), .int (iI ((fi1 : Nat) : Int)), .int (iI (se)), .int (iI ((le : Nat) : Int)), .ref m7, .int (iI (bp)), .ref m8])), (m1, .inl (cI, 516, .inl (rI (sF cn en ac cu co au er ki bs)))), (m6, .inl (cI, 16, .inl (rN (u))))]) S hE hP hD hS hA (m_findsRests l D cI cB cZ cO s.heap.size hm m1 m2 m3 m4 m5 m6 m7 m8 pa pb cp ty nx (((fi1 : Nat) : Int)) se le bp cn en ac cu co au er ki bs re ba (by first | assumption | (omega)) (by first | assumption | (omega)) (by first | assumption | (omega)) (by first | assumption | (omega)) (by first | assumption | (omega)) (by first | assumption | (omega)) (by first | assumption | (omega)) (by first | assumption | (omega))) gX5_does_X5_findsRests rfl ⟨rfl, rfl⟩ (by decide +kernel) ⟨Nat.le_of_ble_eq_true rfl, Nat.le_of_ble_eq_true rfl⟩ [0, 1, 2] [] [0, 1, 2] rfl (by decide) rfl (by decide) (by decide) (by decide) (fun u => rfl) 5 0 rfl rfl rfl hl.1 rfl (Nat.le_of_ble_eq_true rfl) dX5_does_190 ⟨Nat.le_of_ble_eq_true rfl, Nat.le_of_ble_eq_true rfl⟩ (fun u u190p H locs hP hD hS => ?_)
              generalize u = re2_u190 at u190p hP hD ⊢
              obtain ⟨hre2_u190, hrb_u190⟩ := u190p
              have hre2_u190 : ∀ k, re2_u190 k < 65536 := hre2_u190
              have hrb_u190 : ∀ k, k < en → re2_u190 k = ba k := hrb_u190
              have hP : va_P D vwCl [(hm, .inr (5, [.ref m1, .ref m2, .ref m3, .int (iI ((pa : Nat) : Int)), .int (iI ((pb : Nat) : Int)), .ref m4, .int (iI ((cp : Nat) : Int)), .ref m5, .int (iI ((ty : Nat) : Int)), .ref m6, .int (iI ((nx : Nat) : Int)), .int (iI ((fi1 : Nat) : Int)), .int (iI (se)), .int (iI ((le : Nat) : Int)), .ref m7, .int (iI (bp)), .ref m8])), (m1, .inl (cI, 516, .inl (rI (sF cn en ac cu co au er ki bs)))), (m6, .inl (cI, 16, .inl (rN (re2_u190))))] H := hP
              have hD : va_D A [(hm, .inr (5, [.ref m1, .ref m2, .ref m3, .int (iI ((pa : Nat) : Int)), .int (iI ((pb : Nat) : Int)), .ref m4, .int (iI ((cp : Nat) : Int)), .ref m5, .int (iI ((ty : Nat) : Int)), .ref m6, .int (iI ((nx : Nat) : Int)), .int (iI ((fi1 : Nat) : Int)), .int (iI (se)), .int (iI ((le : Nat) : Int)), .ref m7, .int (iI (bp)), .ref m8])), (m1, .inl (cI, 516, .inl (rI (sF cn en ac cu co au er ki bs)))), (m6, .inl (cI, 16, .inl (rN (re2_u190))))] := hD
              refine W.eq (g2 := F0 m 193 ls []) rfl ?_
              refine lv_iload_n hx hb dX5_does_193 rfl (lv_at hl 1 rfl) ?_
              refine r_bipush hx hb dX5_does_194 (by decide) ?_
              refine r_icmp_ne (tgt := 214) hx hb (⟨by decide, by decide⟩) (⟨by decide, by decide⟩) dX5_does_196 (by decide) (fun c_7 => ?_) (fun c_7 => ?_)
              · skip
                exact absurd c_7 (by decide)
              · skip
                refine lv_aload_n hx hb dX5_does_199 rfl (lv_at hl 0 rfl) ?_
                refine lv_aload_n hx hb dX5_does_200 rfl (lv_at hl 0 rfl) ?_
                refine lv_aload_n hx hb dX5_does_201 rfl (lv_at hl 0 rfl) ?_
                refine va_get (D := D) (ci := 5) (v := .int (iI ((fi1 : Nat) : Int))) (C := RX5) (T := TX5) (N := 17) hx hb hts nX5_does_X5 hown hK hP 0 rfl rfl 11 (by decide) (hts _ kX5_does_152) (fun _ h9 => h9) rfl dX5_does_202 ?_
                refine callVO (n := 1) (As := [.int (iI ((fi1 : Nat) : Int))]) (rest := [.ref hm]) (wc := [(hm, .inr (5, [.ref m1, .ref m2, .ref m3, .int (iI ((pa : Nat) : Int)), .int (iI ((pb : Nat) : Int)), .ref m4, .int (iI ((cp : Nat) : Int)), .ref m5, .int (iI ((ty : Nat) : Int)), .ref m6, .int (iI ((nx : Nat) : Int)), .int (iI ((fi1 : Nat) : Int)), .int (iI (se)), .int (iI ((le : Nat) : Int)), .ref m7, .int (iI (bp)), .ref m8])), (m1, .inl (cI, 516, .inl (rI (sF cn en ac cu co au er ki bs)))), (m6, .inl (cI, 16, .inl (rN (re2_u190))))]) S (m_closureOf l D cI cB cZ cO hm m1 m2 m3 m4 m5 m6 m7 m8 pa pb cp ty nx (((fi1 : Nat) : Int)) se le bp cn en ac cu co au er ki bs re2_u190 fi1 (by first | assumption | (omega)) (by first | assumption | (omega)) (by first | assumption | (omega))) gX5_does_X5_closureOf rfl ⟨rfl, rfl⟩ (by decide +kernel) ⟨Nat.le_of_ble_eq_true rfl, Nat.le_of_ble_eq_true rfl⟩ hE hP [0, 1, 2] rfl 5 0 rfl rfl rfl hl.1 rfl (Nat.le_of_ble_eq_true rfl) dX5_does_205 ⟨Nat.le_of_ble_eq_true rfl, Nat.le_of_ble_eq_true rfl⟩ ?_
                rw [show ((2 ^ fi1 ||| (dep re2_u190 en (2 ^ fi1) &&& ac) : Nat) : Int) = ((2 ^ fi1 ||| (dep ba en (2 ^ fi1) &&& ac) : Nat) : Int) from by rw [dep_congr hrb_u190]]
                refine callVO (n := 1) (As := [.int (iI ((2 ^ fi1 ||| (dep ba en (2 ^ fi1) &&& ac) : Nat) : Int))]) (rest := []) (wc := [(hm, .inr (5, [.ref m1, .ref m2, .ref m3, .int (iI ((pa : Nat) : Int)), .int (iI ((pb : Nat) : Int)), .ref m4, .int (iI ((cp : Nat) : Int)), .ref m5, .int (iI ((ty : Nat) : Int)), .ref m6, .int (iI ((nx : Nat) : Int)), .int (iI ((fi1 : Nat) : Int)), .int (iI (se)), .int (iI ((le : Nat) : Int)), .ref m7, .int (iI (bp)), .ref m8])), (m1, .inl (cI, 516, .inl (rI (sF cn en ac cu co au er ki bs))))]) S (m_goes_full l D cI cB cZ cO hm m1 m2 m3 m4 m5 m6 m7 m8 pa pb cp ty nx (((fi1 : Nat) : Int)) se le bp cn en ac cu co au er ki bs (2 ^ fi1 ||| (dep ba en (2 ^ fi1) &&& ac)) (by first | assumption | (omega)) (by first | assumption | (omega)) (by first | assumption | (omega)) (by first | assumption | (omega)) (by first | assumption | (omega)) (by first | assumption | (omega))) gX5_does_X5_goes rfl ⟨rfl, rfl⟩ (by decide +kernel) ⟨Nat.le_of_ble_eq_true rfl, Nat.le_of_ble_eq_true rfl⟩ hE hP [0, 1] rfl 5 0 rfl rfl rfl hl.1 rfl (Nat.le_of_ble_eq_true rfl) dX5_does_208 ⟨Nat.le_of_ble_eq_true rfl, Nat.le_of_ble_eq_true rfl⟩ ?_
                refine lv_goto (tgt := 226) hx hb dX5_does_211 (by decide) ?_
                refine r_if_lt (tgt := 233) hx hb (⟨by decide, by decide⟩) dX5_does_226 (by decide) (fun c_8 => ?_) (fun c_8 => ?_)
                · skip
                  refine r_iconst hx hb dX5_does_233 ?_
                  exact r_zretX hx hb hr hlocks hP hD hS (re2_u190) (rfl) (by assumption) rfl (Or.inl rfl) dX5_does_234
                · skip
                  exact absurd c_8 (by decide)
            · skip
              exfalso; omega
      · skip
        exact absurd c_3 (by decide)
    · skip
      exact absurd c_2 (by decide)
  · skip
    exact absurd c_1 (by decide)

set_option maxHeartbeats 4000000 in
set_option maxRecDepth 100000 in
theorem m_does_lt (l : Launch) (D : va_G) (cI cB cZ cO : ClassId) (sz : Nat) (hm : Nat) (m1 : Nat) (m2 : Nat) (m3 : Nat) (m4 : Nat) (m5 : Nat) (m6 : Nat) (m7 : Nat) (m8 : Nat) (pa : Nat) (pb : Nat) (cp : Nat) (ty : Nat) (nx : Nat) (se : Int) (le : Nat) (bp : Int) (cn : Nat) (en : Nat) (ac : Nat) (cu : Nat) (co : Nat → Nat) (au : Nat → Int) (er : Nat → Nat) (ki : Nat → Nat) (bs : Nat → Int) (re : Nat → Nat) (ba : Nat → Nat) (fi1 : Nat) (hcn : cn ≤ 160) (hen : en ≤ 16) (hau : ∀ k, -1 ≤ au k ∧ au k < 16) (her : ∀ k, er k < 65536) (hbs : ∀ k, -1 ≤ bs k ∧ bs k < 16) (hki : ∀ k, ki k ≤ 1) (hre : ∀ k, re k < 65536) (hrq : RQ au er ki bs cn en ba) (hac : ac < 65536) (hba : ∀ k, ba k < 65536) (hfe : fi1 < en) (hna : ac.testBit fi1 = true) (hroom : cnt (visb (omF au) er (nd ac (2 ^ fi1 ||| (dep ba en (2 ^ fi1) &&& ac)))) cn ≤ 60) (hcu : cu ≤ 60) : Met l yX5_does wsX5_does ({ frames := 5, cells := 0, slots := 0, locals := 109 }) (va_Pc [.ref hm, .int (iI 60)] (RW D cI cB cZ cO sz [(hm, .inr (5, [.ref m1, .ref m2, .ref m3, .int (iI ((pa : Nat) : Int)), .int (iI ((pb : Nat) : Int)), .ref m4, .int (iI ((cp : Nat) : Int)), .ref m5, .int (iI ((ty : Nat) : Int)), .ref m6, .int (iI ((nx : Nat) : Int)), .int (iI ((fi1 : Nat) : Int)), .int (iI (se)), .int (iI ((le : Nat) : Int)), .ref m7, .int (iI (bp)), .ref m8])), (m1, .inl (cI, 516, .inl (rI (sF cn en ac cu co au er ki bs)))), (m6, .inl (cI, 16, .inl (rN (re))))])) (QX D (S := (Nat → Nat)) (fun u => some (.int (iI 1))) (fun u => (∀ k, u k < 65536)) (fun u => [(hm, .inr (5, [.ref m1, .ref m2, .ref m3, .int (iI ((pa : Nat) : Int)), .int (iI ((pb : Nat) : Int)), .ref m4, .int (iI ((cp : Nat) : Int)), .ref m5, .int (iI ((ty : Nat) : Int)), .ref m6, .int (iI ((nx : Nat) : Int)), .int (iI ((fi1 : Nat) : Int)), .int (iI (se)), .int (iI ((le : Nat) : Int)), .ref m7, .int (iI (bp)), .ref m8])), (m1, .inl (cI, 516, .inl (rI (sF cn en (nd ac (2 ^ fi1 ||| (dep ba en (2 ^ fi1) &&& ac))) (min cu (cnt (visb (omF au) er (nd ac (2 ^ fi1 ||| (dep ba en (2 ^ fi1) &&& ac)))) cn)) co au er ki bs)))), (m6, .inl (cI, 16, .inl (rN (u))))]) (va_A [(hm, .inr (5, [.ref m1, .ref m2, .ref m3, .int (iI ((pa : Nat) : Int)), .int (iI ((pb : Nat) : Int)), .ref m4, .int (iI ((cp : Nat) : Int)), .ref m5, .int (iI ((ty : Nat) : Int)), .ref m6, .int (iI ((nx : Nat) : Int)), .int (iI ((fi1 : Nat) : Int)), .int (iI (se)), .int (iI ((le : Nat) : Int)), .ref m7, .int (iI (bp)), .ref m8])), (m1, .inl (cI, 516, .inl (rI (sF cn en ac cu co au er ki bs)))), (m6, .inl (cI, 16, .inl (rN (re))))] sz)) 0 0 (va_A [(hm, .inr (5, [.ref m1, .ref m2, .ref m3, .int (iI ((pa : Nat) : Int)), .int (iI ((pb : Nat) : Int)), .ref m4, .int (iI ((cp : Nat) : Int)), .ref m5, .int (iI ((ty : Nat) : Int)), .ref m6, .int (iI ((nx : Nat) : Int)), .int (iI ((fi1 : Nat) : Int)), .int (iI (se)), .int (iI ((le : Nat) : Int)), .ref m7, .int (iI (bp)), .ref m8])), (m1, .inl (cI, 516, .inl (rI (sF cn en ac cu co au er ki bs)))), (m6, .inl (cI, 16, .inl (rN (re))))] sz) := by
  refine startW (cc := cX5_does) (maxL := 4) (ret := (some .boolean)) (by decide) rfl (Nat.le_of_ble_eq_true rfl) ?_
  intro p e s m below meth c S hr hlocks hE hP A hD hA hS ls hl
  have hx := S.1
  have hb := S.2.1
  have hown := S.2.2.2.1
  have hts := S.2.2.2.2
  have hK := hE.1
  have hl : lv_has ls 4 [(0, .ref hm), (1, .int (iI 60))] := hl
  have hbi := bI_t (P := ac.testBit fi1 = true) hna
  have hp2 := pow_le16 hen
  have hcl9 : 2 ^ fi1 ||| (dep ba en (2 ^ fi1) &&& ac) < 65536 := or16 (pow16 (by omega)) (Nat.lt_of_le_of_lt Nat.and_le_right hac)
  refine lv_iload_n hx hb dX5_does_0 rfl (lv_at hl 1 rfl) ?_
  refine r_bipush hx hb dX5_does_1 (by decide) ?_
  refine r_icmp_ne (tgt := 83) hx hb (⟨by decide, by decide⟩) (⟨by decide, by decide⟩) dX5_does_3 (by decide) (fun c_1 => ?_) (fun c_1 => ?_)
  · skip
    refine lv_iload_n hx hb dX5_does_83 rfl (lv_at hl 1 rfl) ?_
    refine r_bipush hx hb dX5_does_84 (by decide) ?_
    refine r_icmp_ne (tgt := 110) hx hb (⟨by decide, by decide⟩) (⟨by decide, by decide⟩) dX5_does_86 (by decide) (fun c_2 => ?_) (fun c_2 => ?_)
    · skip
      refine lv_iload_n hx hb dX5_does_110 rfl (lv_at hl 1 rfl) ?_
      refine r_bipush hx hb dX5_does_111 (by decide) ?_
      refine r_icmp_ne (tgt := 154) hx hb (⟨by decide, by decide⟩) (⟨by decide, by decide⟩) dX5_does_113 (by decide) (fun c_3 => ?_) (fun c_3 => ?_)
      · skip
        refine lv_aload_n hx hb dX5_does_154 rfl (lv_at hl 0 rfl) ?_
        refine lv_aload_n hx hb dX5_does_155 rfl (lv_at hl 0 rfl) ?_
        refine va_get (D := D) (ci := 5) (v := .int (iI ((fi1 : Nat) : Int))) (C := RX5) (T := TX5) (N := 17) hx hb hts nX5_does_X5 hown hK hP 0 rfl rfl 11 (by decide) (hts _ kX5_does_152) (fun _ h9 => h9) rfl dX5_does_156 ?_
        refine callVO (n := 1) (As := [.int (iI ((fi1 : Nat) : Int))]) (rest := []) (wc := [(hm, .inr (5, [.ref m1, .ref m2, .ref m3, .int (iI ((pa : Nat) : Int)), .int (iI ((pb : Nat) : Int)), .ref m4, .int (iI ((cp : Nat) : Int)), .ref m5, .int (iI ((ty : Nat) : Int)), .ref m6, .int (iI ((nx : Nat) : Int)), .int (iI ((fi1 : Nat) : Int)), .int (iI (se)), .int (iI ((le : Nat) : Int)), .ref m7, .int (iI (bp)), .ref m8])), (m1, .inl (cI, 516, .inl (rI (sF cn en ac cu co au er ki bs))))]) S (m_isEdit l D cI cB cZ cO hm m1 m2 m3 m4 m5 m6 m7 m8 pa pb cp ty nx (((fi1 : Nat) : Int)) se le bp cn en ac cu co au er ki bs (((fi1 : Nat) : Int)) (by first | assumption | (omega)) (by first | assumption | (omega))) gX5_does_X5_isEdit rfl ⟨rfl, rfl⟩ (by decide +kernel) ⟨Nat.le_of_ble_eq_true rfl, Nat.le_of_ble_eq_true rfl⟩ hE hP [0, 1] rfl 5 0 rfl rfl rfl hl.1 rfl (Nat.le_of_ble_eq_true rfl) dX5_does_159 ⟨Nat.le_of_ble_eq_true rfl, Nat.le_of_ble_eq_true rfl⟩ ?_
        refine r_ifb_eq (tgt := 187) hx hb dX5_does_162 (by decide) (fun c_4 => ?_) (fun c_4 => ?_)
        · skip
          exfalso; omega
        · skip
          refine lv_aload_n hx hb dX5_does_165 rfl (lv_at hl 0 rfl) ?_
          refine lv_aload_n hx hb dX5_does_166 rfl (lv_at hl 0 rfl) ?_
          refine va_get (D := D) (ci := 5) (v := .int (iI ((fi1 : Nat) : Int))) (C := RX5) (T := TX5) (N := 17) hx hb hts nX5_does_X5 hown hK hP 0 rfl rfl 11 (by decide) (hts _ kX5_does_152) (fun _ h9 => h9) rfl dX5_does_167 ?_
          refine callVO (n := 1) (As := [.int (iI ((fi1 : Nat) : Int))]) (rest := []) (wc := [(hm, .inr (5, [.ref m1, .ref m2, .ref m3, .int (iI ((pa : Nat) : Int)), .int (iI ((pb : Nat) : Int)), .ref m4, .int (iI ((cp : Nat) : Int)), .ref m5, .int (iI ((ty : Nat) : Int)), .ref m6, .int (iI ((nx : Nat) : Int)), .int (iI ((fi1 : Nat) : Int)), .int (iI (se)), .int (iI ((le : Nat) : Int)), .ref m7, .int (iI (bp)), .ref m8])), (m1, .inl (cI, 516, .inl (rI (sF cn en ac cu co au er ki bs))))]) S (m_isActive l D cI cB cZ cO hm m1 m2 m3 m4 m5 m6 m7 m8 pa pb cp ty nx (((fi1 : Nat) : Int)) se le bp cn en ac cu co au er ki bs fi1 (by first | assumption | (omega)) (by first | assumption | (omega))) gX5_does_X5_isActive rfl ⟨rfl, rfl⟩ (by decide +kernel) ⟨Nat.le_of_ble_eq_true rfl, Nat.le_of_ble_eq_true rfl⟩ hE hP [0, 1] rfl 5 0 rfl rfl rfl hl.1 rfl (Nat.le_of_ble_eq_true rfl) dX5_does_170 ⟨Nat.le_of_ble_eq_true rfl, Nat.le_of_ble_eq_true rfl⟩ ?_
          refine lv_iload_n hx hb dX5_does_173 rfl (lv_at hl 1 rfl) ?_
          refine r_bipush hx hb dX5_does_174 (by decide) ?_
          refine r_icmp_ne (tgt := 183) hx hb (⟨by decide, by decide⟩) (⟨by decide, by decide⟩) dX5_does_176 (by decide) (fun c_5 => ?_) (fun c_5 => ?_)
          · skip
            exact absurd c_5 (by decide)
          · skip
            refine r_iconst hx hb dX5_does_179 ?_
            refine lv_goto (tgt := 184) hx hb dX5_does_180 (by decide) ?_
            refine r_icmp_eq (tgt := 189) hx hb (rg_b _) (⟨by decide, by decide⟩) dX5_does_184 (by decide) (fun c_6 => ?_) (fun c_6 => ?_)
            · skip
              refine lv_aload_n hx hb dX5_does_189 rfl (lv_at hl 0 rfl) ?_
              refine callVX (n := 0) (As := []) (rest := []) (wc := [(hm, .inr (5, [.ref m1, .ref m2, .ref m3, .int (iI ((pa : Nat) : Int)), .int (iI ((pb : Nat) : Int)), .ref m4, .int (iI ((cp : Nat) : Int)), .ref m5, .int (iI ((ty : Nat) : Int)), .ref m6, .int (iI ((nx : Nat) : Int)), .int (iI ((fi1 : Nat) : Int)), .int (iI (se)), .int (iI ((le : Nat) : Int)), .ref m7, .int (iI (bp)), .ref m8])), (m1, .inl (cI, 516, .inl (rI (sF cn en ac cu co au er ki bs)))), (m6, .inl (cI, 16, .inl (rN (re))))]) (wr := []) (ws2 := fun u => [(hm, .inr (5, [.ref m1, .ref m2, .ref m3, .int (iI ((pa : Nat) : Int)), .int (iI ((pb : Nat) : Int)), .ref m4, .int (iI ((cp : Nat) : Int)), .ref m5, .int (iI ((ty : Nat) : Int)), .ref m6, .int (iI ((nx : Nat) : Int)), .int (iI ((fi1 : Nat) : Int)), .int (iI (se)), .int (iI ((le : Nat) : Int)), .ref m7, .int (iI (bp)), .ref m8])), (m1, .inl (cI, 516, .inl (rI (sF cn en ac cu co au er ki bs)))), (m6, .inl (cI, 16, .inl (rN (u))))]) S hE hP hD hS hA (m_findsRests l D cI cB cZ cO s.heap.size hm m1 m2 m3 m4 m5 m6 m7 m8 pa pb cp ty nx (((fi1 : Nat) : Int)) se le bp cn en ac cu co au er ki bs re ba (by first | assumption | (omega)) (by first | assumption | (omega)) (by first | assumption | (omega)) (by first | assumption | (omega)) (by first | assumption | (omega)) (by first | assumption | (omega)) (by first | assumption | (omega)) (by first | assumption | (omega))) gX5_does_X5_findsRests rfl ⟨rfl, rfl⟩ (by decide +kernel) ⟨Nat.le_of_ble_eq_true rfl, Nat.le_of_ble_eq_true rfl⟩ [0, 1, 2] [] [0, 1, 2] rfl (by decide) rfl (by decide) (by decide) (by decide) (fun u => rfl) 5 0 rfl rfl rfl hl.1 rfl (Nat.le_of_ble_eq_true rfl) dX5_does_190 ⟨Nat.le_of_ble_eq_true rfl, Nat.le_of_ble_eq_true rfl⟩ (fun u u190p H locs hP hD hS => ?_)
              generalize u = re2_u190 at u190p hP hD ⊢
              obtain ⟨hre2_u190, hrb_u190⟩ := u190p
              have hre2_u190 : ∀ k, re2_u190 k < 65536 := hre2_u190
              have hrb_u190 : ∀ k, k < en → re2_u190 k = ba k := hrb_u190
              have hP : va_P D vwCl [(hm, .inr (5, [.ref m1, .ref m2, .ref m3, .int (iI ((pa : Nat) : Int)), .int (iI ((pb : Nat) : Int)), .ref m4, .int (iI ((cp : Nat) : Int)), .ref m5, .int (iI ((ty : Nat) : Int)), .ref m6, .int (iI ((nx : Nat) : Int)), .int (iI ((fi1 : Nat) : Int)), .int (iI (se)), .int (iI ((le : Nat) : Int)), .ref m7, .int (iI (bp)), .ref m8])), (m1, .inl (cI, 516, .inl (rI (sF cn en ac cu co au er ki bs)))), (m6, .inl (cI, 16, .inl (rN (re2_u190))))] H := hP
              have hD : va_D A [(hm, .inr (5, [.ref m1, .ref m2, .ref m3, .int (iI ((pa : Nat) : Int)), .int (iI ((pb : Nat) : Int)), .ref m4, .int (iI ((cp : Nat) : Int)), .ref m5, .int (iI ((ty : Nat) : Int)), .ref m6, .int (iI ((nx : Nat) : Int)), .int (iI ((fi1 : Nat) : Int)), .int (iI (se)), .int (iI ((le : Nat) : Int)), .ref m7, .int (iI (bp)), .ref m8])), (m1, .inl (cI, 516, .inl (rI (sF cn en ac cu co au er ki bs)))), (m6, .inl (cI, 16, .inl (rN (re2_u190))))] := hD
              refine W.eq (g2 := F0 m 193 ls []) rfl ?_
              refine lv_iload_n hx hb dX5_does_193 rfl (lv_at hl 1 rfl) ?_
              refine r_bipush hx hb dX5_does_194 (by decide) ?_
              refine r_icmp_ne (tgt := 214) hx hb (⟨by decide, by decide⟩) (⟨by decide, by decide⟩) dX5_does_196 (by decide) (fun c_7 => ?_) (fun c_7 => ?_)
              · skip
                exact absurd c_7 (by decide)
              · skip
                refine lv_aload_n hx hb dX5_does_199 rfl (lv_at hl 0 rfl) ?_
                refine lv_aload_n hx hb dX5_does_200 rfl (lv_at hl 0 rfl) ?_
                refine lv_aload_n hx hb dX5_does_201 rfl (lv_at hl 0 rfl) ?_
                refine va_get (D := D) (ci := 5) (v := .int (iI ((fi1 : Nat) : Int))) (C := RX5) (T := TX5) (N := 17) hx hb hts nX5_does_X5 hown hK hP 0 rfl rfl 11 (by decide) (hts _ kX5_does_152) (fun _ h9 => h9) rfl dX5_does_202 ?_
                refine callVO (n := 1) (As := [.int (iI ((fi1 : Nat) : Int))]) (rest := [.ref hm]) (wc := [(hm, .inr (5, [.ref m1, .ref m2, .ref m3, .int (iI ((pa : Nat) : Int)), .int (iI ((pb : Nat) : Int)), .ref m4, .int (iI ((cp : Nat) : Int)), .ref m5, .int (iI ((ty : Nat) : Int)), .ref m6, .int (iI ((nx : Nat) : Int)), .int (iI ((fi1 : Nat) : Int)), .int (iI (se)), .int (iI ((le : Nat) : Int)), .ref m7, .int (iI (bp)), .ref m8])), (m1, .inl (cI, 516, .inl (rI (sF cn en ac cu co au er ki bs)))), (m6, .inl (cI, 16, .inl (rN (re2_u190))))]) S (m_closureOf l D cI cB cZ cO hm m1 m2 m3 m4 m5 m6 m7 m8 pa pb cp ty nx (((fi1 : Nat) : Int)) se le bp cn en ac cu co au er ki bs re2_u190 fi1 (by first | assumption | (omega)) (by first | assumption | (omega)) (by first | assumption | (omega))) gX5_does_X5_closureOf rfl ⟨rfl, rfl⟩ (by decide +kernel) ⟨Nat.le_of_ble_eq_true rfl, Nat.le_of_ble_eq_true rfl⟩ hE hP [0, 1, 2] rfl 5 0 rfl rfl rfl hl.1 rfl (Nat.le_of_ble_eq_true rfl) dX5_does_205 ⟨Nat.le_of_ble_eq_true rfl, Nat.le_of_ble_eq_true rfl⟩ ?_
                rw [show ((2 ^ fi1 ||| (dep re2_u190 en (2 ^ fi1) &&& ac) : Nat) : Int) = ((2 ^ fi1 ||| (dep ba en (2 ^ fi1) &&& ac) : Nat) : Int) from by rw [dep_congr hrb_u190]]
                refine callVX (n := 1) (As := [.int (iI ((2 ^ fi1 ||| (dep ba en (2 ^ fi1) &&& ac) : Nat) : Int))]) (rest := []) (wc := [(hm, .inr (5, [.ref m1, .ref m2, .ref m3, .int (iI ((pa : Nat) : Int)), .int (iI ((pb : Nat) : Int)), .ref m4, .int (iI ((cp : Nat) : Int)), .ref m5, .int (iI ((ty : Nat) : Int)), .ref m6, .int (iI ((nx : Nat) : Int)), .int (iI ((fi1 : Nat) : Int)), .int (iI (se)), .int (iI ((le : Nat) : Int)), .ref m7, .int (iI (bp)), .ref m8])), (m1, .inl (cI, 516, .inl (rI (sF cn en ac cu co au er ki bs))))]) (wr := [(m6, .inl (cI, 16, .inl (rN (re2_u190))))]) (ws2 := fun u => [(hm, .inr (5, [.ref m1, .ref m2, .ref m3, .int (iI ((pa : Nat) : Int)), .int (iI ((pb : Nat) : Int)), .ref m4, .int (iI ((cp : Nat) : Int)), .ref m5, .int (iI ((ty : Nat) : Int)), .ref m6, .int (iI ((nx : Nat) : Int)), .int (iI ((fi1 : Nat) : Int)), .int (iI (se)), .int (iI ((le : Nat) : Int)), .ref m7, .int (iI (bp)), .ref m8])), (m1, .inl (cI, 516, .inl (rI (sF cn en (nd ac (2 ^ fi1 ||| (dep ba en (2 ^ fi1) &&& ac))) (min cu (cnt (visb (omF au) er (nd ac (2 ^ fi1 ||| (dep ba en (2 ^ fi1) &&& ac)))) cn)) co au er ki bs)))), (m6, .inl (cI, 16, .inl (rN (re2_u190))))]) S hE hP hD hS hA (m_goes l D cI cB cZ cO H.size hm m1 m2 m3 m4 m5 m6 m7 m8 pa pb cp ty nx (((fi1 : Nat) : Int)) se le bp cn en ac cu co au er ki bs (2 ^ fi1 ||| (dep ba en (2 ^ fi1) &&& ac)) (by first | assumption | (omega)) (by first | assumption | (omega)) (by first | assumption | (omega)) (by first | assumption | (omega)) (by first | assumption | (omega)) (by first | assumption | (omega)) (by first | assumption | (omega))) gX5_does_X5_goes rfl ⟨rfl, rfl⟩ (by decide +kernel) ⟨Nat.le_of_ble_eq_true rfl, Nat.le_of_ble_eq_true rfl⟩ [0, 1] [2] [1, 2, 0] rfl (by decide) rfl (by decide) (by decide) (by decide) (fun u => rfl) 5 0 rfl rfl rfl hl.1 rfl (Nat.le_of_ble_eq_true rfl) dX5_does_208 ⟨Nat.le_of_ble_eq_true rfl, Nat.le_of_ble_eq_true rfl⟩ (fun u u208p H locs hP hD hS => ?_)
                have hP : va_P D vwCl [(hm, .inr (5, [.ref m1, .ref m2, .ref m3, .int (iI ((pa : Nat) : Int)), .int (iI ((pb : Nat) : Int)), .ref m4, .int (iI ((cp : Nat) : Int)), .ref m5, .int (iI ((ty : Nat) : Int)), .ref m6, .int (iI ((nx : Nat) : Int)), .int (iI ((fi1 : Nat) : Int)), .int (iI (se)), .int (iI ((le : Nat) : Int)), .ref m7, .int (iI (bp)), .ref m8])), (m1, .inl (cI, 516, .inl (rI (sF cn en (nd ac (2 ^ fi1 ||| (dep ba en (2 ^ fi1) &&& ac))) (min cu (cnt (visb (omF au) er (nd ac (2 ^ fi1 ||| (dep ba en (2 ^ fi1) &&& ac)))) cn)) co au er ki bs)))), (m6, .inl (cI, 16, .inl (rN (re2_u190))))] H := hP
                have hD : va_D A [(hm, .inr (5, [.ref m1, .ref m2, .ref m3, .int (iI ((pa : Nat) : Int)), .int (iI ((pb : Nat) : Int)), .ref m4, .int (iI ((cp : Nat) : Int)), .ref m5, .int (iI ((ty : Nat) : Int)), .ref m6, .int (iI ((nx : Nat) : Int)), .int (iI ((fi1 : Nat) : Int)), .int (iI (se)), .int (iI ((le : Nat) : Int)), .ref m7, .int (iI (bp)), .ref m8])), (m1, .inl (cI, 516, .inl (rI (sF cn en (nd ac (2 ^ fi1 ||| (dep ba en (2 ^ fi1) &&& ac))) (min cu (cnt (visb (omF au) er (nd ac (2 ^ fi1 ||| (dep ba en (2 ^ fi1) &&& ac)))) cn)) co au er ki bs)))), (m6, .inl (cI, 16, .inl (rN (re2_u190))))] := hD
                refine W.eq (g2 := F0 m 211 ls [.int (iI ((cnt (visb (omF au) er (nd ac (2 ^ fi1 ||| (dep ba en (2 ^ fi1) &&& ac)))) cn : Nat) : Int))]) rfl ?_
                refine lv_goto (tgt := 226) hx hb dX5_does_211 (by decide) ?_
                refine r_if_lt (tgt := 233) hx hb (by omega) dX5_does_226 (by decide) (fun c_8 => ?_) (fun c_8 => ?_)
                · skip
                  exfalso; omega
                · skip
                  refine r_iconst hx hb dX5_does_229 ?_
                  refine lv_goto (tgt := 234) hx hb dX5_does_230 (by decide) ?_
                  exact r_zretX hx hb hr hlocks hP hD hS (re2_u190) (rfl) (by assumption) rfl (Or.inr rfl) dX5_does_234
            · skip
              exfalso; omega
      · skip
        exact absurd c_3 (by decide)
    · skip
      exact absurd c_2 (by decide)
  · skip
    exact absurd c_1 (by decide)

set_option maxHeartbeats 4000000 in
set_option maxRecDepth 100000 in
theorem m_does_gt_bad (l : Launch) (D : va_G) (cI cB cZ cO : ClassId) (hm : Nat) (m1 : Nat) (m2 : Nat) (m3 : Nat) (m4 : Nat) (m5 : Nat) (m6 : Nat) (m7 : Nat) (m8 : Nat) (pa : Nat) (pb : Nat) (cp : Nat) (ty : Nat) (nx : Nat) (se : Int) (le : Nat) (bp : Int) (cn : Nat) (en : Nat) (ac : Nat) (cu : Nat) (co : Nat → Nat) (au : Nat → Int) (er : Nat → Nat) (ki : Nat → Nat) (bs : Nat → Int) (fi1 : Nat) (hcn : cn ≤ 160) (hac : ac < 65536) (hau : ∀ k, -1 ≤ au k ∧ au k < 16) (her : ∀ k, er k < 65536) (hen : en ≤ 16) (hfi : fi1 < 65536) (hbad : ¬ fi1 < en) : Met l yX5_does wsX5_does ({ frames := 2, cells := 0, slots := 0, locals := 43 }) (va_Pc [.ref hm, .int (iI 62)] (RO D cI cB cZ cO [(hm, .inr (5, [.ref m1, .ref m2, .ref m3, .int (iI ((pa : Nat) : Int)), .int (iI ((pb : Nat) : Int)), .ref m4, .int (iI ((cp : Nat) : Int)), .ref m5, .int (iI ((ty : Nat) : Int)), .ref m6, .int (iI ((nx : Nat) : Int)), .int (iI ((fi1 : Nat) : Int)), .int (iI (se)), .int (iI ((le : Nat) : Int)), .ref m7, .int (iI (bp)), .ref m8])), (m1, .inl (cI, 516, .inl (rI (sF cn en ac cu co au er ki bs))))])) (QO 0) 0 0 (fun _ => False) := by
  refine startO (cc := cX5_does) (maxL := 4) (ret := (some .boolean)) (by decide) rfl (Nat.le_of_ble_eq_true rfl) ?_
  intro p e s m below meth c S hr hlocks hE hP ls hl
  have hx := S.1
  have hb := S.2.1
  have hown := S.2.2.2.1
  have hts := S.2.2.2.2
  have hK := hE.1
  have hl : lv_has ls 4 [(0, .ref hm), (1, .int (iI 62))] := hl
  refine lv_iload_n hx hb dX5_does_0 rfl (lv_at hl 1 rfl) ?_
  refine r_bipush hx hb dX5_does_1 (by decide) ?_
  refine r_icmp_ne (tgt := 83) hx hb (⟨by decide, by decide⟩) (⟨by decide, by decide⟩) dX5_does_3 (by decide) (fun c_1 => ?_) (fun c_1 => ?_)
  · skip
    refine lv_iload_n hx hb dX5_does_83 rfl (lv_at hl 1 rfl) ?_
    refine r_bipush hx hb dX5_does_84 (by decide) ?_
    refine r_icmp_ne (tgt := 110) hx hb (⟨by decide, by decide⟩) (⟨by decide, by decide⟩) dX5_does_86 (by decide) (fun c_2 => ?_) (fun c_2 => ?_)
    · skip
      refine lv_iload_n hx hb dX5_does_110 rfl (lv_at hl 1 rfl) ?_
      refine r_bipush hx hb dX5_does_111 (by decide) ?_
      refine r_icmp_ne (tgt := 154) hx hb (⟨by decide, by decide⟩) (⟨by decide, by decide⟩) dX5_does_113 (by decide) (fun c_3 => ?_) (fun c_3 => ?_)
      · skip
        refine lv_aload_n hx hb dX5_does_154 rfl (lv_at hl 0 rfl) ?_
        refine lv_aload_n hx hb dX5_does_155 rfl (lv_at hl 0 rfl) ?_
        refine va_get (D := D) (ci := 5) (v := .int (iI ((fi1 : Nat) : Int))) (C := RX5) (T := TX5) (N := 17) hx hb hts nX5_does_X5 hown hK hP 0 rfl rfl 11 (by decide) (hts _ kX5_does_152) (fun _ h9 => h9) rfl dX5_does_156 ?_
        refine callVO (n := 1) (As := [.int (iI ((fi1 : Nat) : Int))]) (rest := []) (wc := [(hm, .inr (5, [.ref m1, .ref m2, .ref m3, .int (iI ((pa : Nat) : Int)), .int (iI ((pb : Nat) : Int)), .ref m4, .int (iI ((cp : Nat) : Int)), .ref m5, .int (iI ((ty : Nat) : Int)), .ref m6, .int (iI ((nx : Nat) : Int)), .int (iI ((fi1 : Nat) : Int)), .int (iI (se)), .int (iI ((le : Nat) : Int)), .ref m7, .int (iI (bp)), .ref m8])), (m1, .inl (cI, 516, .inl (rI (sF cn en ac cu co au er ki bs))))]) S (m_isEdit l D cI cB cZ cO hm m1 m2 m3 m4 m5 m6 m7 m8 pa pb cp ty nx (((fi1 : Nat) : Int)) se le bp cn en ac cu co au er ki bs (((fi1 : Nat) : Int)) (by first | assumption | (omega)) (by first | assumption | (omega))) gX5_does_X5_isEdit rfl ⟨rfl, rfl⟩ (by decide +kernel) ⟨Nat.le_of_ble_eq_true rfl, Nat.le_of_ble_eq_true rfl⟩ hE hP [0, 1] rfl 5 0 rfl rfl rfl hl.1 rfl (Nat.le_of_ble_eq_true rfl) dX5_does_159 ⟨Nat.le_of_ble_eq_true rfl, Nat.le_of_ble_eq_true rfl⟩ ?_
        refine r_ifb_eq (tgt := 187) hx hb dX5_does_162 (by decide) (fun c_4 => ?_) (fun c_4 => ?_)
        · skip
          refine r_iconst hx hb dX5_does_187 ?_
          exact r_zretO hx hb hr hlocks (rfl) (Or.inl rfl) dX5_does_188
        · skip
          exfalso; omega
      · skip
        exact absurd c_3 (by decide)
    · skip
      exact absurd c_2 (by decide)
  · skip
    exact absurd c_1 (by decide)

set_option maxHeartbeats 4000000 in
set_option maxRecDepth 100000 in
theorem m_does_gt_no (l : Launch) (D : va_G) (cI cB cZ cO : ClassId) (hm : Nat) (m1 : Nat) (m2 : Nat) (m3 : Nat) (m4 : Nat) (m5 : Nat) (m6 : Nat) (m7 : Nat) (m8 : Nat) (pa : Nat) (pb : Nat) (cp : Nat) (ty : Nat) (nx : Nat) (se : Int) (le : Nat) (bp : Int) (cn : Nat) (en : Nat) (ac : Nat) (cu : Nat) (co : Nat → Nat) (au : Nat → Int) (er : Nat → Nat) (ki : Nat → Nat) (bs : Nat → Int) (fi1 : Nat) (hcn : cn ≤ 160) (hac : ac < 65536) (hau : ∀ k, -1 ≤ au k ∧ au k < 16) (her : ∀ k, er k < 65536) (hen : en ≤ 16) (hfe : fi1 < en) (hna : ac.testBit fi1 = true) : Met l yX5_does wsX5_does ({ frames := 2, cells := 0, slots := 0, locals := 43 }) (va_Pc [.ref hm, .int (iI 62)] (RO D cI cB cZ cO [(hm, .inr (5, [.ref m1, .ref m2, .ref m3, .int (iI ((pa : Nat) : Int)), .int (iI ((pb : Nat) : Int)), .ref m4, .int (iI ((cp : Nat) : Int)), .ref m5, .int (iI ((ty : Nat) : Int)), .ref m6, .int (iI ((nx : Nat) : Int)), .int (iI ((fi1 : Nat) : Int)), .int (iI (se)), .int (iI ((le : Nat) : Int)), .ref m7, .int (iI (bp)), .ref m8])), (m1, .inl (cI, 516, .inl (rI (sF cn en ac cu co au er ki bs))))])) (QO 0) 0 0 (fun _ => False) := by
  refine startO (cc := cX5_does) (maxL := 4) (ret := (some .boolean)) (by decide) rfl (Nat.le_of_ble_eq_true rfl) ?_
  intro p e s m below meth c S hr hlocks hE hP ls hl
  have hx := S.1
  have hb := S.2.1
  have hown := S.2.2.2.1
  have hts := S.2.2.2.2
  have hK := hE.1
  have hl : lv_has ls 4 [(0, .ref hm), (1, .int (iI 62))] := hl
  have hbi := bI_t (P := ac.testBit fi1 = true) hna
  refine lv_iload_n hx hb dX5_does_0 rfl (lv_at hl 1 rfl) ?_
  refine r_bipush hx hb dX5_does_1 (by decide) ?_
  refine r_icmp_ne (tgt := 83) hx hb (⟨by decide, by decide⟩) (⟨by decide, by decide⟩) dX5_does_3 (by decide) (fun c_1 => ?_) (fun c_1 => ?_)
  · skip
    refine lv_iload_n hx hb dX5_does_83 rfl (lv_at hl 1 rfl) ?_
    refine r_bipush hx hb dX5_does_84 (by decide) ?_
    refine r_icmp_ne (tgt := 110) hx hb (⟨by decide, by decide⟩) (⟨by decide, by decide⟩) dX5_does_86 (by decide) (fun c_2 => ?_) (fun c_2 => ?_)
    · skip
      refine lv_iload_n hx hb dX5_does_110 rfl (lv_at hl 1 rfl) ?_
      refine r_bipush hx hb dX5_does_111 (by decide) ?_
      refine r_icmp_ne (tgt := 154) hx hb (⟨by decide, by decide⟩) (⟨by decide, by decide⟩) dX5_does_113 (by decide) (fun c_3 => ?_) (fun c_3 => ?_)
      · skip
        refine lv_aload_n hx hb dX5_does_154 rfl (lv_at hl 0 rfl) ?_
        refine lv_aload_n hx hb dX5_does_155 rfl (lv_at hl 0 rfl) ?_
        refine va_get (D := D) (ci := 5) (v := .int (iI ((fi1 : Nat) : Int))) (C := RX5) (T := TX5) (N := 17) hx hb hts nX5_does_X5 hown hK hP 0 rfl rfl 11 (by decide) (hts _ kX5_does_152) (fun _ h9 => h9) rfl dX5_does_156 ?_
        refine callVO (n := 1) (As := [.int (iI ((fi1 : Nat) : Int))]) (rest := []) (wc := [(hm, .inr (5, [.ref m1, .ref m2, .ref m3, .int (iI ((pa : Nat) : Int)), .int (iI ((pb : Nat) : Int)), .ref m4, .int (iI ((cp : Nat) : Int)), .ref m5, .int (iI ((ty : Nat) : Int)), .ref m6, .int (iI ((nx : Nat) : Int)), .int (iI ((fi1 : Nat) : Int)), .int (iI (se)), .int (iI ((le : Nat) : Int)), .ref m7, .int (iI (bp)), .ref m8])), (m1, .inl (cI, 516, .inl (rI (sF cn en ac cu co au er ki bs))))]) S (m_isEdit l D cI cB cZ cO hm m1 m2 m3 m4 m5 m6 m7 m8 pa pb cp ty nx (((fi1 : Nat) : Int)) se le bp cn en ac cu co au er ki bs (((fi1 : Nat) : Int)) (by first | assumption | (omega)) (by first | assumption | (omega))) gX5_does_X5_isEdit rfl ⟨rfl, rfl⟩ (by decide +kernel) ⟨Nat.le_of_ble_eq_true rfl, Nat.le_of_ble_eq_true rfl⟩ hE hP [0, 1] rfl 5 0 rfl rfl rfl hl.1 rfl (Nat.le_of_ble_eq_true rfl) dX5_does_159 ⟨Nat.le_of_ble_eq_true rfl, Nat.le_of_ble_eq_true rfl⟩ ?_
        refine r_ifb_eq (tgt := 187) hx hb dX5_does_162 (by decide) (fun c_4 => ?_) (fun c_4 => ?_)
        · skip
          refine r_iconst hx hb dX5_does_187 ?_
          exact r_zretO hx hb hr hlocks (rfl) (Or.inl rfl) dX5_does_188
        · skip
          refine lv_aload_n hx hb dX5_does_165 rfl (lv_at hl 0 rfl) ?_
          refine lv_aload_n hx hb dX5_does_166 rfl (lv_at hl 0 rfl) ?_
          refine va_get (D := D) (ci := 5) (v := .int (iI ((fi1 : Nat) : Int))) (C := RX5) (T := TX5) (N := 17) hx hb hts nX5_does_X5 hown hK hP 0 rfl rfl 11 (by decide) (hts _ kX5_does_152) (fun _ h9 => h9) rfl dX5_does_167 ?_
          refine callVO (n := 1) (As := [.int (iI ((fi1 : Nat) : Int))]) (rest := []) (wc := [(hm, .inr (5, [.ref m1, .ref m2, .ref m3, .int (iI ((pa : Nat) : Int)), .int (iI ((pb : Nat) : Int)), .ref m4, .int (iI ((cp : Nat) : Int)), .ref m5, .int (iI ((ty : Nat) : Int)), .ref m6, .int (iI ((nx : Nat) : Int)), .int (iI ((fi1 : Nat) : Int)), .int (iI (se)), .int (iI ((le : Nat) : Int)), .ref m7, .int (iI (bp)), .ref m8])), (m1, .inl (cI, 516, .inl (rI (sF cn en ac cu co au er ki bs))))]) S (m_isActive l D cI cB cZ cO hm m1 m2 m3 m4 m5 m6 m7 m8 pa pb cp ty nx (((fi1 : Nat) : Int)) se le bp cn en ac cu co au er ki bs fi1 (by first | assumption | (omega)) (by first | assumption | (omega))) gX5_does_X5_isActive rfl ⟨rfl, rfl⟩ (by decide +kernel) ⟨Nat.le_of_ble_eq_true rfl, Nat.le_of_ble_eq_true rfl⟩ hE hP [0, 1] rfl 5 0 rfl rfl rfl hl.1 rfl (Nat.le_of_ble_eq_true rfl) dX5_does_170 ⟨Nat.le_of_ble_eq_true rfl, Nat.le_of_ble_eq_true rfl⟩ ?_
          refine lv_iload_n hx hb dX5_does_173 rfl (lv_at hl 1 rfl) ?_
          refine r_bipush hx hb dX5_does_174 (by decide) ?_
          refine r_icmp_ne (tgt := 183) hx hb (⟨by decide, by decide⟩) (⟨by decide, by decide⟩) dX5_does_176 (by decide) (fun c_5 => ?_) (fun c_5 => ?_)
          · skip
            refine r_iconst hx hb dX5_does_183 ?_
            refine r_icmp_eq (tgt := 189) hx hb (rg_b _) (⟨by decide, by decide⟩) dX5_does_184 (by decide) (fun c_6 => ?_) (fun c_6 => ?_)
            · skip
              exfalso; omega
            · skip
              refine r_iconst hx hb dX5_does_187 ?_
              exact r_zretO hx hb hr hlocks (rfl) (Or.inl rfl) dX5_does_188
          · skip
            exact absurd c_5 (by decide)
      · skip
        exact absurd c_3 (by decide)
    · skip
      exact absurd c_2 (by decide)
  · skip
    exact absurd c_1 (by decide)

set_option maxHeartbeats 4000000 in
set_option maxRecDepth 100000 in
theorem m_does_gt_full (l : Launch) (D : va_G) (cI cB cZ cO : ClassId) (sz : Nat) (hm : Nat) (m1 : Nat) (m2 : Nat) (m3 : Nat) (m4 : Nat) (m5 : Nat) (m6 : Nat) (m7 : Nat) (m8 : Nat) (pa : Nat) (pb : Nat) (cp : Nat) (ty : Nat) (nx : Nat) (se : Int) (le : Nat) (bp : Int) (cn : Nat) (en : Nat) (ac : Nat) (cu : Nat) (co : Nat → Nat) (au : Nat → Int) (er : Nat → Nat) (ki : Nat → Nat) (bs : Nat → Int) (re : Nat → Nat) (ba : Nat → Nat) (fi1 : Nat) (hcn : cn ≤ 160) (hen : en ≤ 16) (hau : ∀ k, -1 ≤ au k ∧ au k < 16) (her : ∀ k, er k < 65536) (hbs : ∀ k, -1 ≤ bs k ∧ bs k < 16) (hki : ∀ k, ki k ≤ 1) (hre : ∀ k, re k < 65536) (hrq : RQ au er ki bs cn en ba) (hac : ac < 65536) (hba : ∀ k, ba k < 65536) (hfe : fi1 < en) (hna : ¬ ac.testBit fi1 = true) (hfull : 60 < cnt (visb (omF au) er (ac ||| (2 ^ fi1 ||| nd (ba fi1) ac))) cn) : Met l yX5_does wsX5_does ({ frames := 3, cells := 0, slots := 0, locals := 68 }) (va_Pc [.ref hm, .int (iI 62)] (RW D cI cB cZ cO sz [(hm, .inr (5, [.ref m1, .ref m2, .ref m3, .int (iI ((pa : Nat) : Int)), .int (iI ((pb : Nat) : Int)), .ref m4, .int (iI ((cp : Nat) : Int)), .ref m5, .int (iI ((ty : Nat) : Int)), .ref m6, .int (iI ((nx : Nat) : Int)), .int (iI ((fi1 : Nat) : Int)), .int (iI (se)), .int (iI ((le : Nat) : Int)), .ref m7, .int (iI (bp)), .ref m8])), (m1, .inl (cI, 516, .inl (rI (sF cn en ac cu co au er ki bs)))), (m6, .inl (cI, 16, .inl (rN (re))))])) (QX D (S := (Nat → Nat)) (fun u => some (.int (iI 0))) (fun u => (∀ k, u k < 65536)) (fun u => [(hm, .inr (5, [.ref m1, .ref m2, .ref m3, .int (iI ((pa : Nat) : Int)), .int (iI ((pb : Nat) : Int)), .ref m4, .int (iI ((cp : Nat) : Int)), .ref m5, .int (iI ((ty : Nat) : Int)), .ref m6, .int (iI ((nx : Nat) : Int)), .int (iI ((fi1 : Nat) : Int)), .int (iI (se)), .int (iI ((le : Nat) : Int)), .ref m7, .int (iI (bp)), .ref m8])), (m1, .inl (cI, 516, .inl (rI (sF cn en ac cu co au er ki bs)))), (m6, .inl (cI, 16, .inl (rN (u))))]) (va_A [(hm, .inr (5, [.ref m1, .ref m2, .ref m3, .int (iI ((pa : Nat) : Int)), .int (iI ((pb : Nat) : Int)), .ref m4, .int (iI ((cp : Nat) : Int)), .ref m5, .int (iI ((ty : Nat) : Int)), .ref m6, .int (iI ((nx : Nat) : Int)), .int (iI ((fi1 : Nat) : Int)), .int (iI (se)), .int (iI ((le : Nat) : Int)), .ref m7, .int (iI (bp)), .ref m8])), (m1, .inl (cI, 516, .inl (rI (sF cn en ac cu co au er ki bs)))), (m6, .inl (cI, 16, .inl (rN (re))))] sz)) 0 0 (va_A [(hm, .inr (5, [.ref m1, .ref m2, .ref m3, .int (iI ((pa : Nat) : Int)), .int (iI ((pb : Nat) : Int)), .ref m4, .int (iI ((cp : Nat) : Int)), .ref m5, .int (iI ((ty : Nat) : Int)), .ref m6, .int (iI ((nx : Nat) : Int)), .int (iI ((fi1 : Nat) : Int)), .int (iI (se)), .int (iI ((le : Nat) : Int)), .ref m7, .int (iI (bp)), .ref m8])), (m1, .inl (cI, 516, .inl (rI (sF cn en ac cu co au er ki bs)))), (m6, .inl (cI, 16, .inl (rN (re))))] sz) := by
  refine startW (cc := cX5_does) (maxL := 4) (ret := (some .boolean)) (by decide) rfl (Nat.le_of_ble_eq_true rfl) ?_
  intro p e s m below meth c S hr hlocks hE hP A hD hA hS ls hl
  have hx := S.1
  have hb := S.2.1
  have hown := S.2.2.2.1
  have hts := S.2.2.2.2
  have hK := hE.1
  have hl : lv_has ls 4 [(0, .ref hm), (1, .int (iI 62))] := hl
  have hbi := bI_f (P := ac.testBit fi1 = true) hna
  have hp2 := pow_le16 hen
  have hcl9 : 2 ^ fi1 ||| nd (ba fi1) ac < 65536 := or16 (pow16 (by omega)) (Nat.lt_of_le_of_lt (nd_le _ _) (hba fi1))
  refine lv_iload_n hx hb dX5_does_0 rfl (lv_at hl 1 rfl) ?_
  refine r_bipush hx hb dX5_does_1 (by decide) ?_
  refine r_icmp_ne (tgt := 83) hx hb (⟨by decide, by decide⟩) (⟨by decide, by decide⟩) dX5_does_3 (by decide) (fun c_1 => ?_) (fun c_1 => ?_)
  · skip
    refine lv_iload_n hx hb dX5_does_83 rfl (lv_at hl 1 rfl) ?_
    refine r_bipush hx hb dX5_does_84 (by decide) ?_
    refine r_icmp_ne (tgt := 110) hx hb (⟨by decide, by decide⟩) (⟨by decide, by decide⟩) dX5_does_86 (by decide) (fun c_2 => ?_) (fun c_2 => ?_)
    · skip
      refine lv_iload_n hx hb dX5_does_110 rfl (lv_at hl 1 rfl) ?_
      refine r_bipush hx hb dX5_does_111 (by decide) ?_
      refine r_icmp_ne (tgt := 154) hx hb (⟨by decide, by decide⟩) (⟨by decide, by decide⟩) dX5_does_113 (by decide) (fun c_3 => ?_) (fun c_3 => ?_)
      · skip
        refine lv_aload_n hx hb dX5_does_154 rfl (lv_at hl 0 rfl) ?_
        refine lv_aload_n hx hb dX5_does_155 rfl (lv_at hl 0 rfl) ?_
        refine va_get (D := D) (ci := 5) (v := .int (iI ((fi1 : Nat) : Int))) (C := RX5) (T := TX5) (N := 17) hx hb hts nX5_does_X5 hown hK hP 0 rfl rfl 11 (by decide) (hts _ kX5_does_152) (fun _ h9 => h9) rfl dX5_does_156 ?_
        refine callVO (n := 1) (As := [.int (iI ((fi1 : Nat) : Int))]) (rest := []) (wc := [(hm, .inr (5, [.ref m1, .ref m2, .ref m3, .int (iI ((pa : Nat) : Int)), .int (iI ((pb : Nat) : Int)), .ref m4, .int (iI ((cp : Nat) : Int)), .ref m5, .int (iI ((ty : Nat) : Int)), .ref m6, .int (iI ((nx : Nat) : Int)), .int (iI ((fi1 : Nat) : Int)), .int (iI (se)), .int (iI ((le : Nat) : Int)), .ref m7, .int (iI (bp)), .ref m8])), (m1, .inl (cI, 516, .inl (rI (sF cn en ac cu co au er ki bs))))]) S (m_isEdit l D cI cB cZ cO hm m1 m2 m3 m4 m5 m6 m7 m8 pa pb cp ty nx (((fi1 : Nat) : Int)) se le bp cn en ac cu co au er ki bs (((fi1 : Nat) : Int)) (by first | assumption | (omega)) (by first | assumption | (omega))) gX5_does_X5_isEdit rfl ⟨rfl, rfl⟩ (by decide +kernel) ⟨Nat.le_of_ble_eq_true rfl, Nat.le_of_ble_eq_true rfl⟩ hE hP [0, 1] rfl 5 0 rfl rfl rfl hl.1 rfl (Nat.le_of_ble_eq_true rfl) dX5_does_159 ⟨Nat.le_of_ble_eq_true rfl, Nat.le_of_ble_eq_true rfl⟩ ?_
        refine r_ifb_eq (tgt := 187) hx hb dX5_does_162 (by decide) (fun c_4 => ?_) (fun c_4 => ?_)
        · skip
          exfalso; omega
        · skip
          refine lv_aload_n hx hb dX5_does_165 rfl (lv_at hl 0 rfl) ?_
          refine lv_aload_n hx hb dX5_does_166 rfl (lv_at hl 0 rfl) ?_
          refine va_get (D := D) (ci := 5) (v := .int (iI ((fi1 : Nat) : Int))) (C := RX5) (T := TX5) (N := 17) hx hb hts nX5_does_X5 hown hK hP 0 rfl rfl 11 (by decide) (hts _ kX5_does_152) (fun _ h9 => h9) rfl dX5_does_167 ?_
          refine callVO (n := 1) (As := [.int (iI ((fi1 : Nat) : Int))]) (rest := []) (wc := [(hm, .inr (5, [.ref m1, .ref m2, .ref m3, .int (iI ((pa : Nat) : Int)), .int (iI ((pb : Nat) : Int)), .ref m4, .int (iI ((cp : Nat) : Int)), .ref m5, .int (iI ((ty : Nat) : Int)), .ref m6, .int (iI ((nx : Nat) : Int)), .int (iI ((fi1 : Nat) : Int)), .int (iI (se)), .int (iI ((le : Nat) : Int)), .ref m7, .int (iI (bp)), .ref m8])), (m1, .inl (cI, 516, .inl (rI (sF cn en ac cu co au er ki bs))))]) S (m_isActive l D cI cB cZ cO hm m1 m2 m3 m4 m5 m6 m7 m8 pa pb cp ty nx (((fi1 : Nat) : Int)) se le bp cn en ac cu co au er ki bs fi1 (by first | assumption | (omega)) (by first | assumption | (omega))) gX5_does_X5_isActive rfl ⟨rfl, rfl⟩ (by decide +kernel) ⟨Nat.le_of_ble_eq_true rfl, Nat.le_of_ble_eq_true rfl⟩ hE hP [0, 1] rfl 5 0 rfl rfl rfl hl.1 rfl (Nat.le_of_ble_eq_true rfl) dX5_does_170 ⟨Nat.le_of_ble_eq_true rfl, Nat.le_of_ble_eq_true rfl⟩ ?_
          refine lv_iload_n hx hb dX5_does_173 rfl (lv_at hl 1 rfl) ?_
          refine r_bipush hx hb dX5_does_174 (by decide) ?_
          refine r_icmp_ne (tgt := 183) hx hb (⟨by decide, by decide⟩) (⟨by decide, by decide⟩) dX5_does_176 (by decide) (fun c_5 => ?_) (fun c_5 => ?_)
          · skip
            refine r_iconst hx hb dX5_does_183 ?_
            refine r_icmp_eq (tgt := 189) hx hb (rg_b _) (⟨by decide, by decide⟩) dX5_does_184 (by decide) (fun c_6 => ?_) (fun c_6 => ?_)
            · skip
              refine lv_aload_n hx hb dX5_does_189 rfl (lv_at hl 0 rfl) ?_
              refine callVX (n := 0) (As := []) (rest := []) (wc := [(hm, .inr (5, [.ref m1, .ref m2, .ref m3, .int (iI ((pa : Nat) : Int)), .int (iI ((pb : Nat) : Int)), .ref m4, .int (iI ((cp : Nat) : Int)), .ref m5, .int (iI ((ty : Nat) : Int)), .ref m6, .int (iI ((nx : Nat) : Int)), .int (iI ((fi1 : Nat) : Int)), .int (iI (se)), .int (iI ((le : Nat) : Int)), .ref m7, .int (iI (bp)), .ref m8])), (m1, .inl (cI, 516, .inl (rI (sF cn en ac cu co au er ki bs)))), (m6, .inl (cI, 16, .inl (rN (re))))]) (wr := []) (ws2 := fun u => [(hm, .inr (5, [.ref m1, .ref m2, .ref m3, .int (iI ((pa : Nat) : Int)), .int (iI ((pb : Nat) : Int)), .ref m4, .int (iI ((cp : Nat) : Int)), .ref m5, .int (iI ((ty : Nat) : Int)), .ref m6, .int (iI ((nx : Nat) : Int)), .int (iI ((fi1 : Nat) : Int)), .int (iI (se)), .int (iI ((le : Nat) : Int)), .ref m7, .int (iI (bp)), .ref m8])), (m1, .inl (cI, 516, .inl (rI (sF cn en ac cu co au er ki bs)))), (m6, .inl (cI, 16, .inl (rN (u))))]) S hE hP hD hS hA (m_findsRests l D cI cB cZ cO s.heap.size hm m1 m2 m3 m4 m5 m6 m7 m8 pa pb cp ty nx (((fi1 : Nat) : Int)) se le bp cn en ac cu co au er ki bs re ba (by first | assumption | (omega)) (by first | assumption | (omega)) (by first | assumption | (omega)) (by first | assumption | (omega)) (by first | assumption | (omega)) (by first | assumption | (omega)) (by first | assumption | (omega)) (by first | assumption | (omega))) gX5_does_X5_findsRests rfl ⟨rfl, rfl⟩ (by decide +kernel) ⟨Nat.le_of_ble_eq_true rfl, Nat.le_of_ble_eq_true rfl⟩ [0, 1, 2] [] [0, 1, 2] rfl (by decide) rfl (by decide) (by decide) (by decide) (fun u => rfl) 5 0 rfl rfl rfl hl.1 rfl (Nat.le_of_ble_eq_true rfl) dX5_does_190 ⟨Nat.le_of_ble_eq_true rfl, Nat.le_of_ble_eq_true rfl⟩ (fun u u190p H locs hP hD hS => ?_)
              generalize u = re2_u190 at u190p hP hD ⊢
              obtain ⟨hre2_u190, hrb_u190⟩ := u190p
              have hre2_u190 : ∀ k, re2_u190 k < 65536 := hre2_u190
              have hrb_u190 : ∀ k, k < en → re2_u190 k = ba k := hrb_u190
              have hP : va_P D vwCl [(hm, .inr (5, [.ref m1, .ref m2, .ref m3, .int (iI ((pa : Nat) : Int)), .int (iI ((pb : Nat) : Int)), .ref m4, .int (iI ((cp : Nat) : Int)), .ref m5, .int (iI ((ty : Nat) : Int)), .ref m6, .int (iI ((nx : Nat) : Int)), .int (iI ((fi1 : Nat) : Int)), .int (iI (se)), .int (iI ((le : Nat) : Int)), .ref m7, .int (iI (bp)), .ref m8])), (m1, .inl (cI, 516, .inl (rI (sF cn en ac cu co au er ki bs)))), (m6, .inl (cI, 16, .inl (rN (re2_u190))))] H := hP
              have hD : va_D A [(hm, .inr (5, [.ref m1, .ref m2, .ref m3, .int (iI ((pa : Nat) : Int)), .int (iI ((pb : Nat) : Int)), .ref m4, .int (iI ((cp : Nat) : Int)), .ref m5, .int (iI ((ty : Nat) : Int)), .ref m6, .int (iI ((nx : Nat) : Int)), .int (iI ((fi1 : Nat) : Int)), .int (iI (se)), .int (iI ((le : Nat) : Int)), .ref m7, .int (iI (bp)), .ref m8])), (m1, .inl (cI, 516, .inl (rI (sF cn en ac cu co au er ki bs)))), (m6, .inl (cI, 16, .inl (rN (re2_u190))))] := hD
              refine W.eq (g2 := F0 m 193 ls []) rfl ?_
              refine lv_iload_n hx hb dX5_does_193 rfl (lv_at hl 1 rfl) ?_
              refine r_bipush hx hb dX5_does_194 (by decide) ?_
              refine r_icmp_ne (tgt := 214) hx hb (⟨by decide, by decide⟩) (⟨by decide, by decide⟩) dX5_does_196 (by decide) (fun c_7 => ?_) (fun c_7 => ?_)
              · skip
                refine lv_aload_n hx hb dX5_does_214 rfl (lv_at hl 0 rfl) ?_
                refine lv_aload_n hx hb dX5_does_215 rfl (lv_at hl 0 rfl) ?_
                refine lv_aload_n hx hb dX5_does_216 rfl (lv_at hl 0 rfl) ?_
                refine va_get (D := D) (ci := 5) (v := .int (iI ((fi1 : Nat) : Int))) (C := RX5) (T := TX5) (N := 17) hx hb hts nX5_does_X5 hown hK hP 0 rfl rfl 11 (by decide) (hts _ kX5_does_152) (fun _ h9 => h9) rfl dX5_does_217 ?_
                refine callVO (n := 1) (As := [.int (iI ((fi1 : Nat) : Int))]) (rest := [.ref hm]) (wc := [(hm, .inr (5, [.ref m1, .ref m2, .ref m3, .int (iI ((pa : Nat) : Int)), .int (iI ((pb : Nat) : Int)), .ref m4, .int (iI ((cp : Nat) : Int)), .ref m5, .int (iI ((ty : Nat) : Int)), .ref m6, .int (iI ((nx : Nat) : Int)), .int (iI ((fi1 : Nat) : Int)), .int (iI (se)), .int (iI ((le : Nat) : Int)), .ref m7, .int (iI (bp)), .ref m8])), (m1, .inl (cI, 516, .inl (rI (sF cn en ac cu co au er ki bs)))), (m6, .inl (cI, 16, .inl (rN (re2_u190))))]) S (m_openingOf l D cI cB cZ cO hm m1 m2 m3 m4 m5 m6 m7 m8 pa pb cp ty nx (((fi1 : Nat) : Int)) se le bp cn en ac cu co au er ki bs re2_u190 fi1 (by first | assumption | (omega))) gX5_does_X5_openingOf rfl ⟨rfl, rfl⟩ (by decide +kernel) ⟨Nat.le_of_ble_eq_true rfl, Nat.le_of_ble_eq_true rfl⟩ hE hP [0, 1, 2] rfl 5 0 rfl rfl rfl hl.1 rfl (Nat.le_of_ble_eq_true rfl) dX5_does_220 ⟨Nat.le_of_ble_eq_true rfl, Nat.le_of_ble_eq_true rfl⟩ ?_
                rw [show ((2 ^ fi1 ||| nd (re2_u190 fi1) ac : Nat) : Int) = ((2 ^ fi1 ||| nd (ba fi1) ac : Nat) : Int) from by rw [hrb_u190 fi1 hfe]]
                refine callVO (n := 1) (As := [.int (iI ((2 ^ fi1 ||| nd (ba fi1) ac : Nat) : Int))]) (rest := []) (wc := [(hm, .inr (5, [.ref m1, .ref m2, .ref m3, .int (iI ((pa : Nat) : Int)), .int (iI ((pb : Nat) : Int)), .ref m4, .int (iI ((cp : Nat) : Int)), .ref m5, .int (iI ((ty : Nat) : Int)), .ref m6, .int (iI ((nx : Nat) : Int)), .int (iI ((fi1 : Nat) : Int)), .int (iI (se)), .int (iI ((le : Nat) : Int)), .ref m7, .int (iI (bp)), .ref m8])), (m1, .inl (cI, 516, .inl (rI (sF cn en ac cu co au er ki bs))))]) S (m_comes_full l D cI cB cZ cO hm m1 m2 m3 m4 m5 m6 m7 m8 pa pb cp ty nx (((fi1 : Nat) : Int)) se le bp cn en ac cu co au er ki bs (2 ^ fi1 ||| nd (ba fi1) ac) (by first | assumption | (omega)) (by first | assumption | (omega)) (by first | assumption | (omega)) (by first | assumption | (omega)) (by first | assumption | (omega)) (by first | assumption | (omega))) gX5_does_X5_comes rfl ⟨rfl, rfl⟩ (by decide +kernel) ⟨Nat.le_of_ble_eq_true rfl, Nat.le_of_ble_eq_true rfl⟩ hE hP [0, 1] rfl 5 0 rfl rfl rfl hl.1 rfl (Nat.le_of_ble_eq_true rfl) dX5_does_223 ⟨Nat.le_of_ble_eq_true rfl, Nat.le_of_ble_eq_true rfl⟩ ?_
                refine r_if_lt (tgt := 233) hx hb (⟨by decide, by decide⟩) dX5_does_226 (by decide) (fun c_8 => ?_) (fun c_8 => ?_)
                · skip
                  refine r_iconst hx hb dX5_does_233 ?_
                  exact r_zretX hx hb hr hlocks hP hD hS (re2_u190) (rfl) (by assumption) rfl (Or.inl rfl) dX5_does_234
                · skip
                  exact absurd c_8 (by decide)
              · skip
                exact absurd c_7 (by decide)
            · skip
              exfalso; omega
          · skip
            exact absurd c_5 (by decide)
      · skip
        exact absurd c_3 (by decide)
    · skip
      exact absurd c_2 (by decide)
  · skip
    exact absurd c_1 (by decide)

set_option maxHeartbeats 4000000 in
set_option maxRecDepth 100000 in
theorem m_does_gt (l : Launch) (D : va_G) (cI cB cZ cO : ClassId) (sz : Nat) (hm : Nat) (m1 : Nat) (m2 : Nat) (m3 : Nat) (m4 : Nat) (m5 : Nat) (m6 : Nat) (m7 : Nat) (m8 : Nat) (pa : Nat) (pb : Nat) (cp : Nat) (ty : Nat) (nx : Nat) (se : Int) (le : Nat) (bp : Int) (cn : Nat) (en : Nat) (ac : Nat) (cu : Nat) (co : Nat → Nat) (au : Nat → Int) (er : Nat → Nat) (ki : Nat → Nat) (bs : Nat → Int) (re : Nat → Nat) (ba : Nat → Nat) (fi1 : Nat) (hcn : cn ≤ 160) (hen : en ≤ 16) (hau : ∀ k, -1 ≤ au k ∧ au k < 16) (her : ∀ k, er k < 65536) (hbs : ∀ k, -1 ≤ bs k ∧ bs k < 16) (hki : ∀ k, ki k ≤ 1) (hre : ∀ k, re k < 65536) (hrq : RQ au er ki bs cn en ba) (hac : ac < 65536) (hba : ∀ k, ba k < 65536) (hfe : fi1 < en) (hna : ¬ ac.testBit fi1 = true) (hroom : cnt (visb (omF au) er (ac ||| (2 ^ fi1 ||| nd (ba fi1) ac))) cn ≤ 60) (hcu : cu ≤ 60) : Met l yX5_does wsX5_does ({ frames := 5, cells := 0, slots := 0, locals := 109 }) (va_Pc [.ref hm, .int (iI 62)] (RW D cI cB cZ cO sz [(hm, .inr (5, [.ref m1, .ref m2, .ref m3, .int (iI ((pa : Nat) : Int)), .int (iI ((pb : Nat) : Int)), .ref m4, .int (iI ((cp : Nat) : Int)), .ref m5, .int (iI ((ty : Nat) : Int)), .ref m6, .int (iI ((nx : Nat) : Int)), .int (iI ((fi1 : Nat) : Int)), .int (iI (se)), .int (iI ((le : Nat) : Int)), .ref m7, .int (iI (bp)), .ref m8])), (m1, .inl (cI, 516, .inl (rI (sF cn en ac cu co au er ki bs)))), (m6, .inl (cI, 16, .inl (rN (re))))])) (QX D (S := (Nat → Nat)) (fun u => some (.int (iI 1))) (fun u => (∀ k, u k < 65536)) (fun u => [(hm, .inr (5, [.ref m1, .ref m2, .ref m3, .int (iI ((pa : Nat) : Int)), .int (iI ((pb : Nat) : Int)), .ref m4, .int (iI ((cp : Nat) : Int)), .ref m5, .int (iI ((ty : Nat) : Int)), .ref m6, .int (iI ((nx : Nat) : Int)), .int (iI ((fi1 : Nat) : Int)), .int (iI (se)), .int (iI ((le : Nat) : Int)), .ref m7, .int (iI (bp)), .ref m8])), (m1, .inl (cI, 516, .inl (rI (sF cn en (ac ||| (2 ^ fi1 ||| nd (ba fi1) ac)) (min cu (cnt (visb (omF au) er (ac ||| (2 ^ fi1 ||| nd (ba fi1) ac))) cn)) co au er ki bs)))), (m6, .inl (cI, 16, .inl (rN (u))))]) (va_A [(hm, .inr (5, [.ref m1, .ref m2, .ref m3, .int (iI ((pa : Nat) : Int)), .int (iI ((pb : Nat) : Int)), .ref m4, .int (iI ((cp : Nat) : Int)), .ref m5, .int (iI ((ty : Nat) : Int)), .ref m6, .int (iI ((nx : Nat) : Int)), .int (iI ((fi1 : Nat) : Int)), .int (iI (se)), .int (iI ((le : Nat) : Int)), .ref m7, .int (iI (bp)), .ref m8])), (m1, .inl (cI, 516, .inl (rI (sF cn en ac cu co au er ki bs)))), (m6, .inl (cI, 16, .inl (rN (re))))] sz)) 0 0 (va_A [(hm, .inr (5, [.ref m1, .ref m2, .ref m3, .int (iI ((pa : Nat) : Int)), .int (iI ((pb : Nat) : Int)), .ref m4, .int (iI ((cp : Nat) : Int)), .ref m5, .int (iI ((ty : Nat) : Int)), .ref m6, .int (iI ((nx : Nat) : Int)), .int (iI ((fi1 : Nat) : Int)), .int (iI (se)), .int (iI ((le : Nat) : Int)), .ref m7, .int (iI (bp)), .ref m8])), (m1, .inl (cI, 516, .inl (rI (sF cn en ac cu co au er ki bs)))), (m6, .inl (cI, 16, .inl (rN (re))))] sz) := by
  refine startW (cc := cX5_does) (maxL := 4) (ret := (some .boolean)) (by decide) rfl (Nat.le_of_ble_eq_true rfl) ?_
  intro p e s m below meth c S hr hlocks hE hP A hD hA hS ls hl
  have hx := S.1
  have hb := S.2.1
  have hown := S.2.2.2.1
  have hts := S.2.2.2.2
  have hK := hE.1
  have hl : lv_has ls 4 [(0, .ref hm), (1, .int (iI 62))] := hl
  have hbi := bI_f (P := ac.testBit fi1 = true) hna
  have hp2 := pow_le16 hen
  have hcl9 : 2 ^ fi1 ||| nd (ba fi1) ac < 65536 := or16 (pow16 (by omega)) (Nat.lt_of_le_of_lt (nd_le _ _) (hba fi1))
  refine lv_iload_n hx hb dX5_does_0 rfl (lv_at hl 1 rfl) ?_
  refine r_bipush hx hb dX5_does_1 (by decide) ?_
  refine r_icmp_ne (tgt := 83) hx hb (⟨by decide, by decide⟩) (⟨by decide, by decide⟩) dX5_does_3 (by decide) (fun c_1 => ?_) (fun c_1 => ?_)
  · skip
    refine lv_iload_n hx hb dX5_does_83 rfl (lv_at hl 1 rfl) ?_
    refine r_bipush hx hb dX5_does_84 (by decide) ?_
    refine r_icmp_ne (tgt := 110) hx hb (⟨by decide, by decide⟩) (⟨by decide, by decide⟩) dX5_does_86 (by decide) (fun c_2 => ?_) (fun c_2 => ?_)
    · skip
      refine lv_iload_n hx hb dX5_does_110 rfl (lv_at hl 1 rfl) ?_
      refine r_bipush hx hb dX5_does_111 (by decide) ?_
      refine r_icmp_ne (tgt := 154) hx hb (⟨by decide, by decide⟩) (⟨by decide, by decide⟩) dX5_does_113 (by decide) (fun c_3 => ?_) (fun c_3 => ?_)
      · skip
        refine lv_aload_n hx hb dX5_does_154 rfl (lv_at hl 0 rfl) ?_
        refine lv_aload_n hx hb dX5_does_155 rfl (lv_at hl 0 rfl) ?_
        refine va_get (D := D) (ci := 5) (v := .int (iI ((fi1 : Nat) : Int))) (C := RX5) (T := TX5) (N := 17) hx hb hts nX5_does_X5 hown hK hP 0 rfl rfl 11 (by decide) (hts _ kX5_does_152) (fun _ h9 => h9) rfl dX5_does_156 ?_
        refine callVO (n := 1) (As := [.int (iI ((fi1 : Nat) : Int))]) (rest := []) (wc := [(hm, .inr (5, [.ref m1, .ref m2, .ref m3, .int (iI ((pa : Nat) : Int)), .int (iI ((pb : Nat) : Int)), .ref m4, .int (iI ((cp : Nat) : Int)), .ref m5, .int (iI ((ty : Nat) : Int)), .ref m6, .int (iI ((nx : Nat) : Int)), .int (iI ((fi1 : Nat) : Int)), .int (iI (se)), .int (iI ((le : Nat) : Int)), .ref m7, .int (iI (bp)), .ref m8])), (m1, .inl (cI, 516, .inl (rI (sF cn en ac cu co au er ki bs))))]) S (m_isEdit l D cI cB cZ cO hm m1 m2 m3 m4 m5 m6 m7 m8 pa pb cp ty nx (((fi1 : Nat) : Int)) se le bp cn en ac cu co au er ki bs (((fi1 : Nat) : Int)) (by first | assumption | (omega)) (by first | assumption | (omega))) gX5_does_X5_isEdit rfl ⟨rfl, rfl⟩ (by decide +kernel) ⟨Nat.le_of_ble_eq_true rfl, Nat.le_of_ble_eq_true rfl⟩ hE hP [0, 1] rfl 5 0 rfl rfl rfl hl.1 rfl (Nat.le_of_ble_eq_true rfl) dX5_does_159 ⟨Nat.le_of_ble_eq_true rfl, Nat.le_of_ble_eq_true rfl⟩ ?_
        refine r_ifb_eq (tgt := 187) hx hb dX5_does_162 (by decide) (fun c_4 => ?_) (fun c_4 => ?_)
        · skip
          exfalso; omega
        · skip
          refine lv_aload_n hx hb dX5_does_165 rfl (lv_at hl 0 rfl) ?_
          refine lv_aload_n hx hb dX5_does_166 rfl (lv_at hl 0 rfl) ?_
          refine va_get (D := D) (ci := 5) (v := .int (iI ((fi1 : Nat) : Int))) (C := RX5) (T := TX5) (N := 17) hx hb hts nX5_does_X5 hown hK hP 0 rfl rfl 11 (by decide) (hts _ kX5_does_152) (fun _ h9 => h9) rfl dX5_does_167 ?_
          refine callVO (n := 1) (As := [.int (iI ((fi1 : Nat) : Int))]) (rest := []) (wc := [(hm, .inr (5, [.ref m1, .ref m2, .ref m3, .int (iI ((pa : Nat) : Int)), .int (iI ((pb : Nat) : Int)), .ref m4, .int (iI ((cp : Nat) : Int)), .ref m5, .int (iI ((ty : Nat) : Int)), .ref m6, .int (iI ((nx : Nat) : Int)), .int (iI ((fi1 : Nat) : Int)), .int (iI (se)), .int (iI ((le : Nat) : Int)), .ref m7, .int (iI (bp)), .ref m8])), (m1, .inl (cI, 516, .inl (rI (sF cn en ac cu co au er ki bs))))]) S (m_isActive l D cI cB cZ cO hm m1 m2 m3 m4 m5 m6 m7 m8 pa pb cp ty nx (((fi1 : Nat) : Int)) se le bp cn en ac cu co au er ki bs fi1 (by first | assumption | (omega)) (by first | assumption | (omega))) gX5_does_X5_isActive rfl ⟨rfl, rfl⟩ (by decide +kernel) ⟨Nat.le_of_ble_eq_true rfl, Nat.le_of_ble_eq_true rfl⟩ hE hP [0, 1] rfl 5 0 rfl rfl rfl hl.1 rfl (Nat.le_of_ble_eq_true rfl) dX5_does_170 ⟨Nat.le_of_ble_eq_true rfl, Nat.le_of_ble_eq_true rfl⟩ ?_
          refine lv_iload_n hx hb dX5_does_173 rfl (lv_at hl 1 rfl) ?_
          refine r_bipush hx hb dX5_does_174 (by decide) ?_
          refine r_icmp_ne (tgt := 183) hx hb (⟨by decide, by decide⟩) (⟨by decide, by decide⟩) dX5_does_176 (by decide) (fun c_5 => ?_) (fun c_5 => ?_)
          · skip
            refine r_iconst hx hb dX5_does_183 ?_
            refine r_icmp_eq (tgt := 189) hx hb (rg_b _) (⟨by decide, by decide⟩) dX5_does_184 (by decide) (fun c_6 => ?_) (fun c_6 => ?_)
            · skip
              refine lv_aload_n hx hb dX5_does_189 rfl (lv_at hl 0 rfl) ?_
              refine callVX (n := 0) (As := []) (rest := []) (wc := [(hm, .inr (5, [.ref m1, .ref m2, .ref m3, .int (iI ((pa : Nat) : Int)), .int (iI ((pb : Nat) : Int)), .ref m4, .int (iI ((cp : Nat) : Int)), .ref m5, .int (iI ((ty : Nat) : Int)), .ref m6, .int (iI ((nx : Nat) : Int)), .int (iI ((fi1 : Nat) : Int)), .int (iI (se)), .int (iI ((le : Nat) : Int)), .ref m7, .int (iI (bp)), .ref m8])), (m1, .inl (cI, 516, .inl (rI (sF cn en ac cu co au er ki bs)))), (m6, .inl (cI, 16, .inl (rN (re))))]) (wr := []) (ws2 := fun u => [(hm, .inr (5, [.ref m1, .ref m2, .ref m3, .int (iI ((pa : Nat) : Int)), .int (iI ((pb : Nat) : Int)), .ref m4, .int (iI ((cp : Nat) : Int)), .ref m5, .int (iI ((ty : Nat) : Int)), .ref m6, .int (iI ((nx : Nat) : Int)), .int (iI ((fi1 : Nat) : Int)), .int (iI (se)), .int (iI ((le : Nat) : Int)), .ref m7, .int (iI (bp)), .ref m8])), (m1, .inl (cI, 516, .inl (rI (sF cn en ac cu co au er ki bs)))), (m6, .inl (cI, 16, .inl (rN (u))))]) S hE hP hD hS hA (m_findsRests l D cI cB cZ cO s.heap.size hm m1 m2 m3 m4 m5 m6 m7 m8 pa pb cp ty nx (((fi1 : Nat) : Int)) se le bp cn en ac cu co au er ki bs re ba (by first | assumption | (omega)) (by first | assumption | (omega)) (by first | assumption | (omega)) (by first | assumption | (omega)) (by first | assumption | (omega)) (by first | assumption | (omega)) (by first | assumption | (omega)) (by first | assumption | (omega))) gX5_does_X5_findsRests rfl ⟨rfl, rfl⟩ (by decide +kernel) ⟨Nat.le_of_ble_eq_true rfl, Nat.le_of_ble_eq_true rfl⟩ [0, 1, 2] [] [0, 1, 2] rfl (by decide) rfl (by decide) (by decide) (by decide) (fun u => rfl) 5 0 rfl rfl rfl hl.1 rfl (Nat.le_of_ble_eq_true rfl) dX5_does_190 ⟨Nat.le_of_ble_eq_true rfl, Nat.le_of_ble_eq_true rfl⟩ (fun u u190p H locs hP hD hS => ?_)
              generalize u = re2_u190 at u190p hP hD ⊢
              obtain ⟨hre2_u190, hrb_u190⟩ := u190p
              have hre2_u190 : ∀ k, re2_u190 k < 65536 := hre2_u190
              have hrb_u190 : ∀ k, k < en → re2_u190 k = ba k := hrb_u190
              have hP : va_P D vwCl [(hm, .inr (5, [.ref m1, .ref m2, .ref m3, .int (iI ((pa : Nat) : Int)), .int (iI ((pb : Nat) : Int)), .ref m4, .int (iI ((cp : Nat) : Int)), .ref m5, .int (iI ((ty : Nat) : Int)), .ref m6, .int (iI ((nx : Nat) : Int)), .int (iI ((fi1 : Nat) : Int)), .int (iI (se)), .int (iI ((le : Nat) : Int)), .ref m7, .int (iI (bp)), .ref m8])), (m1, .inl (cI, 516, .inl (rI (sF cn en ac cu co au er ki bs)))), (m6, .inl (cI, 16, .inl (rN (re2_u190))))] H := hP
              have hD : va_D A [(hm, .inr (5, [.ref m1, .ref m2, .ref m3, .int (iI ((pa : Nat) : Int)), .int (iI ((pb : Nat) : Int)), .ref m4, .int (iI ((cp : Nat) : Int)), .ref m5, .int (iI ((ty : Nat) : Int)), .ref m6, .int (iI ((nx : Nat) : Int)), .int (iI ((fi1 : Nat) : Int)), .int (iI (se)), .int (iI ((le : Nat) : Int)), .ref m7, .int (iI (bp)), .ref m8])), (m1, .inl (cI, 516, .inl (rI (sF cn en ac cu co au er ki bs)))), (m6, .inl (cI, 16, .inl (rN (re2_u190))))] := hD
              refine W.eq (g2 := F0 m 193 ls []) rfl ?_
              refine lv_iload_n hx hb dX5_does_193 rfl (lv_at hl 1 rfl) ?_
              refine r_bipush hx hb dX5_does_194 (by decide) ?_
              refine r_icmp_ne (tgt := 214) hx hb (⟨by decide, by decide⟩) (⟨by decide, by decide⟩) dX5_does_196 (by decide) (fun c_7 => ?_) (fun c_7 => ?_)
              · skip
                refine lv_aload_n hx hb dX5_does_214 rfl (lv_at hl 0 rfl) ?_
                refine lv_aload_n hx hb dX5_does_215 rfl (lv_at hl 0 rfl) ?_
                refine lv_aload_n hx hb dX5_does_216 rfl (lv_at hl 0 rfl) ?_
                refine va_get (D := D) (ci := 5) (v := .int (iI ((fi1 : Nat) : Int))) (C := RX5) (T := TX5) (N := 17) hx hb hts nX5_does_X5 hown hK hP 0 rfl rfl 11 (by decide) (hts _ kX5_does_152) (fun _ h9 => h9) rfl dX5_does_217 ?_
                refine callVO (n := 1) (As := [.int (iI ((fi1 : Nat) : Int))]) (rest := [.ref hm]) (wc := [(hm, .inr (5, [.ref m1, .ref m2, .ref m3, .int (iI ((pa : Nat) : Int)), .int (iI ((pb : Nat) : Int)), .ref m4, .int (iI ((cp : Nat) : Int)), .ref m5, .int (iI ((ty : Nat) : Int)), .ref m6, .int (iI ((nx : Nat) : Int)), .int (iI ((fi1 : Nat) : Int)), .int (iI (se)), .int (iI ((le : Nat) : Int)), .ref m7, .int (iI (bp)), .ref m8])), (m1, .inl (cI, 516, .inl (rI (sF cn en ac cu co au er ki bs)))), (m6, .inl (cI, 16, .inl (rN (re2_u190))))]) S (m_openingOf l D cI cB cZ cO hm m1 m2 m3 m4 m5 m6 m7 m8 pa pb cp ty nx (((fi1 : Nat) : Int)) se le bp cn en ac cu co au er ki bs re2_u190 fi1 (by first | assumption | (omega))) gX5_does_X5_openingOf rfl ⟨rfl, rfl⟩ (by decide +kernel) ⟨Nat.le_of_ble_eq_true rfl, Nat.le_of_ble_eq_true rfl⟩ hE hP [0, 1, 2] rfl 5 0 rfl rfl rfl hl.1 rfl (Nat.le_of_ble_eq_true rfl) dX5_does_220 ⟨Nat.le_of_ble_eq_true rfl, Nat.le_of_ble_eq_true rfl⟩ ?_
                rw [show ((2 ^ fi1 ||| nd (re2_u190 fi1) ac : Nat) : Int) = ((2 ^ fi1 ||| nd (ba fi1) ac : Nat) : Int) from by rw [hrb_u190 fi1 hfe]]
                refine callVX (n := 1) (As := [.int (iI ((2 ^ fi1 ||| nd (ba fi1) ac : Nat) : Int))]) (rest := []) (wc := [(hm, .inr (5, [.ref m1, .ref m2, .ref m3, .int (iI ((pa : Nat) : Int)), .int (iI ((pb : Nat) : Int)), .ref m4, .int (iI ((cp : Nat) : Int)), .ref m5, .int (iI ((ty : Nat) : Int)), .ref m6, .int (iI ((nx : Nat) : Int)), .int (iI ((fi1 : Nat) : Int)), .int (iI (se)), .int (iI ((le : Nat) : Int)), .ref m7, .int (iI (bp)), .ref m8])), (m1, .inl (cI, 516, .inl (rI (sF cn en ac cu co au er ki bs))))]) (wr := [(m6, .inl (cI, 16, .inl (rN (re2_u190))))]) (ws2 := fun u => [(hm, .inr (5, [.ref m1, .ref m2, .ref m3, .int (iI ((pa : Nat) : Int)), .int (iI ((pb : Nat) : Int)), .ref m4, .int (iI ((cp : Nat) : Int)), .ref m5, .int (iI ((ty : Nat) : Int)), .ref m6, .int (iI ((nx : Nat) : Int)), .int (iI ((fi1 : Nat) : Int)), .int (iI (se)), .int (iI ((le : Nat) : Int)), .ref m7, .int (iI (bp)), .ref m8])), (m1, .inl (cI, 516, .inl (rI (sF cn en (ac ||| (2 ^ fi1 ||| nd (ba fi1) ac)) (min cu (cnt (visb (omF au) er (ac ||| (2 ^ fi1 ||| nd (ba fi1) ac))) cn)) co au er ki bs)))), (m6, .inl (cI, 16, .inl (rN (re2_u190))))]) S hE hP hD hS hA (m_comes l D cI cB cZ cO H.size hm m1 m2 m3 m4 m5 m6 m7 m8 pa pb cp ty nx (((fi1 : Nat) : Int)) se le bp cn en ac cu co au er ki bs (2 ^ fi1 ||| nd (ba fi1) ac) (by first | assumption | (omega)) (by first | assumption | (omega)) (by first | assumption | (omega)) (by first | assumption | (omega)) (by first | assumption | (omega)) (by first | assumption | (omega)) (by first | assumption | (omega))) gX5_does_X5_comes rfl ⟨rfl, rfl⟩ (by decide +kernel) ⟨Nat.le_of_ble_eq_true rfl, Nat.le_of_ble_eq_true rfl⟩ [0, 1] [2] [1, 2, 0] rfl (by decide) rfl (by decide) (by decide) (by decide) (fun u => rfl) 5 0 rfl rfl rfl hl.1 rfl (Nat.le_of_ble_eq_true rfl) dX5_does_223 ⟨Nat.le_of_ble_eq_true rfl, Nat.le_of_ble_eq_true rfl⟩ (fun u u223p H locs hP hD hS => ?_)
                have hP : va_P D vwCl [(hm, .inr (5, [.ref m1, .ref m2, .ref m3, .int (iI ((pa : Nat) : Int)), .int (iI ((pb : Nat) : Int)), .ref m4, .int (iI ((cp : Nat) : Int)), .ref m5, .int (iI ((ty : Nat) : Int)), .ref m6, .int (iI ((nx : Nat) : Int)), .int (iI ((fi1 : Nat) : Int)), .int (iI (se)), .int (iI ((le : Nat) : Int)), .ref m7, .int (iI (bp)), .ref m8])), (m1, .inl (cI, 516, .inl (rI (sF cn en (ac ||| (2 ^ fi1 ||| nd (ba fi1) ac)) (min cu (cnt (visb (omF au) er (ac ||| (2 ^ fi1 ||| nd (ba fi1) ac))) cn)) co au er ki bs)))), (m6, .inl (cI, 16, .inl (rN (re2_u190))))] H := hP
                have hD : va_D A [(hm, .inr (5, [.ref m1, .ref m2, .ref m3, .int (iI ((pa : Nat) : Int)), .int (iI ((pb : Nat) : Int)), .ref m4, .int (iI ((cp : Nat) : Int)), .ref m5, .int (iI ((ty : Nat) : Int)), .ref m6, .int (iI ((nx : Nat) : Int)), .int (iI ((fi1 : Nat) : Int)), .int (iI (se)), .int (iI ((le : Nat) : Int)), .ref m7, .int (iI (bp)), .ref m8])), (m1, .inl (cI, 516, .inl (rI (sF cn en (ac ||| (2 ^ fi1 ||| nd (ba fi1) ac)) (min cu (cnt (visb (omF au) er (ac ||| (2 ^ fi1 ||| nd (ba fi1) ac))) cn)) co au er ki bs)))), (m6, .inl (cI, 16, .inl (rN (re2_u190))))] := hD
                refine W.eq (g2 := F0 m 226 ls [.int (iI ((cnt (visb (omF au) er (ac ||| (2 ^ fi1 ||| nd (ba fi1) ac))) cn : Nat) : Int))]) rfl ?_
                refine r_if_lt (tgt := 233) hx hb (by omega) dX5_does_226 (by decide) (fun c_8 => ?_) (fun c_8 => ?_)
                · skip
                  exfalso; omega
                · skip
                  refine r_iconst hx hb dX5_does_229 ?_
                  refine lv_goto (tgt := 234) hx hb dX5_does_230 (by decide) ?_
                  exact r_zretX hx hb hr hlocks hP hD hS (re2_u190) (rfl) (by assumption) rfl (Or.inr rfl) dX5_does_234
              · skip
                exact absurd c_7 (by decide)
            · skip
              exfalso; omega
          · skip
            exact absurd c_5 (by decide)
      · skip
        exact absurd c_3 (by decide)
    · skip
      exact absurd c_2 (by decide)
  · skip
    exact absurd c_1 (by decide)
