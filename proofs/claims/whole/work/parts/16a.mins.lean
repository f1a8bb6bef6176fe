theorem kX5_hasRoom_7 : Cond.fieldLink RX5 7 "PricedUndoModel" "s" "[I" ∈ wsX5_hasRoom := by decide +kernel
theorem nX5_hasRoom_X5 : ∀ w ∈ u_ws RX5 TX5 17, w ∈ wsX5_hasRoom := by decide +kernel
set_option maxHeartbeats 4000000 in
set_option maxRecDepth 100000 in
theorem m_hasRoom (l : Launch) (D : va_G) (cI cB cZ cO : ClassId) (hm : Nat) (m1 : Nat) (m2 : Nat) (m3 : Nat) (m4 : Nat) (m5 : Nat) (m6 : Nat) (m7 : Nat) (m8 : Nat) (pa : Nat) (pb : Nat) (cp : Nat) (ty : Nat) (nx : Nat) (fi : Int) (se : Int) (le : Nat) (bp : Int) (cn : Nat) (en : Nat) (ac : Nat) (cu : Nat) (co : Nat → Nat) (au : Nat → Int) (er : Nat → Nat) (ki : Nat → Nat) (bs : Nat → Int) (mo : Nat) (hcn : cn ≤ 160) (hac : ac < 65536) (hau : ∀ k, -1 ≤ au k ∧ au k < 16) (her : ∀ k, er k < 65536) (hen : en ≤ 16) (hmo : mo < 65536) : Met l yX5_hasRoom wsX5_hasRoom ({ frames := 3, cells := 0, slots := 0, locals := 66 }) (va_Pc [.ref hm, .int (iI ((mo : Nat) : Int))] (RO D cI cB cZ cO [(hm, .inr (5, [.ref m1, .ref m2, .ref m3, .int (iI ((pa : Nat) : Int)), .int (iI ((pb : Nat) : Int)), .ref m4, .int (iI ((cp : Nat) : Int)), .ref m5, .int (iI ((ty : Nat) : Int)), .ref m6, .int (iI ((nx : Nat) : Int)), .int (iI (fi)), .int (iI (se)), .int (iI ((le : Nat) : Int)), .ref m7, .int (iI (bp)), .ref m8])), (m1, .inl (cI, 516, .inl (rI (sF cn en ac cu co au er ki bs))))])) (QO (bI (en < 16 ∧ cnt (visb (omF au) er ac) cn + mo ≤ 60 ∧ cn + mo ≤ 160))) 0 0 (fun _ => False) := by
  refine startO (cc := cX5_hasRoom) (maxL := 2) (ret := (some .boolean)) (by decide) rfl (Nat.le_of_ble_eq_true rfl) ?_
  intro p e s m below meth c S hr hlocks hE hP ls hl
  have hx := S.1
  have hb := S.2.1
  have hown := S.2.2.2.1
  have hts := S.2.2.2.2
  have hK := hE.1
  have hl : lv_has ls 2 [(0, .ref hm), (1, .int (iI ((mo : Nat) : Int)))] := hl
  have hcl := cnt_le (visb (omF au) er ac) cn
  refine lv_aload_n hx hb dX5_hasRoom_0 rfl (lv_at hl 0 rfl) ?_
  refine va_get (D := D) (ci := 5) (v := .ref m1) (C := RX5) (T := TX5) (N := 17) hx hb hts nX5_hasRoom_X5 hown hK hP 0 rfl rfl 0 (by decide) (hts _ kX5_hasRoom_7) (fun _ h9 => h9) rfl dX5_hasRoom_1 ?_
  refine r_iconst hx hb dX5_hasRoom_4 ?_
  refine r_ialdV (v := ((en : Nat) : Int)) hx hb hK hP 1 0 rfl rfl (1) (rfl) (by decide) (by decide) (rfl) dX5_hasRoom_5 ?_
  refine r_bipush hx hb dX5_hasRoom_6 (by decide) ?_
  refine r_icmp_ge (tgt := 40) hx hb (by omega) (⟨by decide, by decide⟩) dX5_hasRoom_8 (by decide) (fun c_1 => ?_) (fun c_1 => ?_)
  · skip
    refine r_iconst hx hb dX5_hasRoom_40 ?_
    exact r_zretO hx hb hr hlocks ((bI_f (by omega)).symm) (Or.inl rfl) dX5_hasRoom_41
  · skip
    refine lv_aload_n hx hb dX5_hasRoom_11 rfl (lv_at hl 0 rfl) ?_
    refine callVO (n := 0) (As := []) (rest := []) (wc := [(hm, .inr (5, [.ref m1, .ref m2, .ref m3, .int (iI ((pa : Nat) : Int)), .int (iI ((pb : Nat) : Int)), .ref m4, .int (iI ((cp : Nat) : Int)), .ref m5, .int (iI ((ty : Nat) : Int)), .ref m6, .int (iI ((nx : Nat) : Int)), .int (iI (fi)), .int (iI (se)), .int (iI ((le : Nat) : Int)), .ref m7, .int (iI (bp)), .ref m8])), (m1, .inl (cI, 516, .inl (rI (sF cn en ac cu co au er ki bs))))]) S (m_length l D cI cB cZ cO hm m1 m2 m3 m4 m5 m6 m7 m8 pa pb cp ty nx fi se le bp cn en ac cu co au er ki bs (by first | assumption | (omega)) (by first | assumption | (omega)) (by first | assumption | (omega)) (by first | assumption | (omega))) gX5_hasRoom_X5_length rfl ⟨rfl, rfl⟩ (by decide +kernel) ⟨Nat.le_of_ble_eq_true rfl, Nat.le_of_ble_eq_true rfl⟩ hE hP [0, 1] rfl 5 0 rfl rfl rfl hl.1 rfl (Nat.le_of_ble_eq_true rfl) dX5_hasRoom_12 ⟨Nat.le_of_ble_eq_true rfl, Nat.le_of_ble_eq_true rfl⟩ ?_
    refine lv_iload_n hx hb dX5_hasRoom_15 rfl (lv_at hl 1 rfl) ?_
    refine r_iadd (v := (((cnt (visb (omF au) er ac) cn) + mo : Nat) : Int)) hx hb (rfl) dX5_hasRoom_16 ?_
    refine r_bipush hx hb dX5_hasRoom_17 (by decide) ?_
    refine r_icmp_gt (tgt := 40) hx hb (by omega) (⟨by decide, by decide⟩) dX5_hasRoom_19 (by decide) (fun c_2 => ?_) (fun c_2 => ?_)
    · skip
      refine r_iconst hx hb dX5_hasRoom_40 ?_
      exact r_zretO hx hb hr hlocks ((bI_f (by omega)).symm) (Or.inl rfl) dX5_hasRoom_41
    · skip
      refine lv_aload_n hx hb dX5_hasRoom_22 rfl (lv_at hl 0 rfl) ?_
      refine va_get (D := D) (ci := 5) (v := .ref m1) (C := RX5) (T := TX5) (N := 17) hx hb hts nX5_hasRoom_X5 hown hK hP 0 rfl rfl 0 (by decide) (hts _ kX5_hasRoom_7) (fun _ h9 => h9) rfl dX5_hasRoom_23 ?_
      refine r_iconst hx hb dX5_hasRoom_26 ?_
      refine r_ialdV (v := ((cn : Nat) : Int)) hx hb hK hP 1 0 rfl rfl (0) (rfl) (by decide) (by decide) (rfl) dX5_hasRoom_27 ?_
      refine lv_iload_n hx hb dX5_hasRoom_28 rfl (lv_at hl 1 rfl) ?_
      refine r_iadd (v := ((cn + mo : Nat) : Int)) hx hb (rfl) dX5_hasRoom_29 ?_
      refine r_sipush hx hb dX5_hasRoom_30 (by decide) ?_
      refine r_icmp_gt (tgt := 40) hx hb (by omega) (⟨by decide, by decide⟩) dX5_hasRoom_33 (by decide) (fun c_3 => ?_) (fun c_3 => ?_)
      · skip
        refine r_iconst hx hb dX5_hasRoom_40 ?_
        exact r_zretO hx hb hr hlocks ((bI_f (by omega)).symm) (Or.inl rfl) dX5_hasRoom_41
      · skip
        refine r_iconst hx hb dX5_hasRoom_36 ?_
        refine lv_goto (tgt := 41) hx hb dX5_hasRoom_37 (by decide) ?_
        exact r_zretO hx hb hr hlocks ((bI_t (by omega)).symm) (Or.inr rfl) dX5_hasRoom_41

theorem kX5_opens_7 : Cond.fieldLink RX5 7 "PricedUndoModel" "s" "[I" ∈ wsX5_opens := by decide +kernel
theorem nX5_opens_X5 : ∀ w ∈ u_ws RX5 TX5 17, w ∈ wsX5_opens := by decide +kernel
set_option maxHeartbeats 4000000 in
set_option maxRecDepth 100000 in
theorem m_opens_S (l : Launch) (D : va_G) (cI cB cZ cO : ClassId) (sz : Nat) (hm : Nat) (m1 : Nat) (m2 : Nat) (m3 : Nat) (m4 : Nat) (m5 : Nat) (m6 : Nat) (m7 : Nat) (m8 : Nat) (pa : Nat) (pb : Nat) (cp : Nat) (ty : Nat) (nx : Nat) (fi : Int) (se : Int) (le : Nat) (bp : Int) (cn : Nat) (en : Nat) (ac : Nat) (cu : Nat) (co : Nat → Nat) (au : Nat → Int) (er : Nat → Nat) (ki : Nat → Nat) (bs : Nat → Int) (g1 : Nat) (an : Nat) (mo : Nat) (hcn : cn ≤ 160) (hac : ac < 65536) (hau : ∀ k, -1 ≤ au k ∧ au k < 16) (her : ∀ k, er k < 65536) (hbs : ∀ k, -1 ≤ bs k ∧ bs k < 16) (hen : en < 16) (hmo : cn + mo ≤ 160) (han : atv (visb (omF au) er ac) cn g1 = (an : Int)) (hanl : an < cn) (hg1 : g1 < 65536) : Met l yX5_opens wsX5_opens ({ frames := 2, cells := 0, slots := 0, locals := 46 }) (va_Pc [.ref hm, .int (iI ((g1 + 1 : Nat) : Int)), .int (iI ((mo : Nat) : Int))] (RW D cI cB cZ cO sz [(hm, .inr (5, [.ref m1, .ref m2, .ref m3, .int (iI ((pa : Nat) : Int)), .int (iI ((pb : Nat) : Int)), .ref m4, .int (iI ((cp : Nat) : Int)), .ref m5, .int (iI ((ty : Nat) : Int)), .ref m6, .int (iI ((nx : Nat) : Int)), .int (iI (fi)), .int (iI (se)), .int (iI ((le : Nat) : Int)), .ref m7, .int (iI (bp)), .ref m8])), (m1, .inl (cI, 516, .inl (rI (sF cn en ac cu co au er ki bs))))])) (QX D (S := Unit) (fun u => some (.int (iI ((an + 1 : Nat) : Int)))) (fun u => True) (fun u => [(hm, .inr (5, [.ref m1, .ref m2, .ref m3, .int (iI ((pa : Nat) : Int)), .int (iI ((pb : Nat) : Int)), .ref m4, .int (iI ((cp : Nat) : Int)), .ref m5, .int (iI ((ty : Nat) : Int)), .ref m6, .int (iI ((nx : Nat) : Int)), .int (iI (fi)), .int (iI (se)), .int (iI ((le : Nat) : Int)), .ref m7, .int (iI (bp)), .ref m8])), (m1, .inl (cI, 516, .inl (rI (sF (cn + mo) (en + 1) (ac ||| 2 ^ en) cu (shF co (an + 1) mo cn) (shI au (an + 1) mo cn) (shF er (an + 1) mo cn) (up ki en (0)) (up bs en (au an))))))]) (va_A [(hm, .inr (5, [.ref m1, .ref m2, .ref m3, .int (iI ((pa : Nat) : Int)), .int (iI ((pb : Nat) : Int)), .ref m4, .int (iI ((cp : Nat) : Int)), .ref m5, .int (iI ((ty : Nat) : Int)), .ref m6, .int (iI ((nx : Nat) : Int)), .int (iI (fi)), .int (iI (se)), .int (iI ((le : Nat) : Int)), .ref m7, .int (iI (bp)), .ref m8])), (m1, .inl (cI, 516, .inl (rI (sF cn en ac cu co au er ki bs))))] sz)) 0 0 (va_A [(hm, .inr (5, [.ref m1, .ref m2, .ref m3, .int (iI ((pa : Nat) : Int)), .int (iI ((pb : Nat) : Int)), .ref m4, .int (iI ((cp : Nat) : Int)), .ref m5, .int (iI ((ty : Nat) : Int)), .ref m6, .int (iI ((nx : Nat) : Int)), .int (iI (fi)), .int (iI (se)), .int (iI ((le : Nat) : Int)), .ref m7, .int (iI (bp)), .ref m8])), (m1, .inl (cI, 516, .inl (rI (sF cn en ac cu co au er ki bs))))] sz) := by
  refine startW (cc := cX5_opens) (maxL := 6) (ret := (some .int)) (by decide) rfl (Nat.le_of_ble_eq_true rfl) ?_
  intro p e s m below meth c S hr hlocks hE hP A hD hA hS ls hl
  have hx := S.1
  have hb := S.2.1
  have hown := S.2.2.2.1
  have hts := S.2.2.2.2
  have hK := hE.1
  have hl : lv_has ls 6 [(0, .ref hm), (1, .int (iI ((g1 + 1 : Nat) : Int))), (2, .int (iI ((mo : Nat) : Int)))] := hl
  refine lv_iload_n hx hb dX5_opens_0 rfl (lv_at hl 1 rfl) ?_
  refine r_if_ne (tgt := 8) hx hb (by omega) dX5_opens_1 (by decide) (fun c_1 => ?_) (fun c_1 => ?_)
  · skip
    refine lv_aload_n hx hb dX5_opens_8 rfl (lv_at hl 0 rfl) ?_
    refine lv_iload_n hx hb dX5_opens_9 rfl (lv_at hl 1 rfl) ?_
    refine r_iconst hx hb dX5_opens_10 ?_
    refine r_isub (v := ((g1 : Nat) : Int)) hx hb (by omega) dX5_opens_11 ?_
    refine callVO (n := 1) (As := [.int (iI ((g1 : Nat) : Int))]) (rest := []) (wc := [(hm, .inr (5, [.ref m1, .ref m2, .ref m3, .int (iI ((pa : Nat) : Int)), .int (iI ((pb : Nat) : Int)), .ref m4, .int (iI ((cp : Nat) : Int)), .ref m5, .int (iI ((ty : Nat) : Int)), .ref m6, .int (iI ((nx : Nat) : Int)), .int (iI (fi)), .int (iI (se)), .int (iI ((le : Nat) : Int)), .ref m7, .int (iI (bp)), .ref m8])), (m1, .inl (cI, 516, .inl (rI (sF cn en ac cu co au er ki bs))))]) S (m_at l D cI cB cZ cO hm m1 m2 m3 m4 m5 m6 m7 m8 pa pb cp ty nx fi se le bp cn en ac cu co au er ki bs g1 (by first | assumption | (omega)) (by first | assumption | (omega)) (by first | assumption | (omega)) (by first | assumption | (omega)) (by first | assumption | (omega))) gX5_opens_X5_at rfl ⟨rfl, rfl⟩ (by decide +kernel) ⟨Nat.le_of_ble_eq_true rfl, Nat.le_of_ble_eq_true rfl⟩ hE hP [0, 1] rfl 5 0 rfl rfl rfl hl.1 rfl (Nat.le_of_ble_eq_true rfl) dX5_opens_12 ⟨Nat.le_of_ble_eq_true rfl, Nat.le_of_ble_eq_true rfl⟩ ?_
    rw [han]
    refine lv_istore_n (lv' := [(3, .int (iI ((an : Nat) : Int))), (0, .ref hm), (1, .int (iI ((g1 + 1 : Nat) : Int))), (2, .int (iI ((mo : Nat) : Int)))]) hx hb dX5_opens_15 rfl hl (by decide) rfl (fun ls hl => ?_)
    refine lv_aload_n hx hb dX5_opens_16 rfl (lv_at hl 1 rfl) ?_
    refine va_get (D := D) (ci := 5) (v := .ref m1) (C := RX5) (T := TX5) (N := 17) hx hb hts nX5_opens_X5 hown hK hP 0 rfl rfl 0 (by decide) (hts _ kX5_opens_7) (fun _ h9 => h9) rfl dX5_opens_17 ?_
    refine r_iconst hx hb dX5_opens_20 ?_
    refine r_ialdV (v := ((en : Nat) : Int)) hx hb hK hP 1 0 rfl rfl (1) (rfl) (by decide) (by decide) (rfl) dX5_opens_21 ?_
    refine lv_istore (lv' := [(4, .int (iI ((en : Nat) : Int))), (3, .int (iI ((an : Nat) : Int))), (0, .ref hm), (1, .int (iI ((g1 + 1 : Nat) : Int))), (2, .int (iI ((mo : Nat) : Int)))]) hx hb dX5_opens_22 hl (by decide) rfl (fun ls hl => ?_)
    refine lv_aload_n hx hb dX5_opens_24 rfl (lv_at hl 2 rfl) ?_
    refine va_get (D := D) (ci := 5) (v := .ref m1) (C := RX5) (T := TX5) (N := 17) hx hb hts nX5_opens_X5 hown hK hP 0 rfl rfl 0 (by decide) (hts _ kX5_opens_7) (fun _ h9 => h9) rfl dX5_opens_25 ?_
    refine r_sipush hx hb dX5_opens_28 (by decide) ?_
    refine lv_iload hx hb dX5_opens_31 (lv_at hl 0 rfl) ?_
    refine r_iadd (v := ((484 + en : Nat) : Int)) hx hb (rfl) dX5_opens_33 ?_
    refine r_iconst hx hb dX5_opens_34 ?_
    refine r_iastV (g := sF cn en ac cu co au er (up ki en 0) bs) (v := ((0 : Nat) : Int)) hx hb hK hP hD hS 1 0 rfl rfl (484 + en) (rfl) (by omega) (by decide) (sF_uki (by omega)) dX5_opens_35 (fun H locs hP hD hS => ?_)
    have hP : va_P D vwCl [(hm, .inr (5, [.ref m1, .ref m2, .ref m3, .int (iI ((pa : Nat) : Int)), .int (iI ((pb : Nat) : Int)), .ref m4, .int (iI ((cp : Nat) : Int)), .ref m5, .int (iI ((ty : Nat) : Int)), .ref m6, .int (iI ((nx : Nat) : Int)), .int (iI (fi)), .int (iI (se)), .int (iI ((le : Nat) : Int)), .ref m7, .int (iI (bp)), .ref m8])), (m1, .inl (cI, 516, .inl (rI (sF cn en ac cu co au er (up ki en 0) bs))))] H := hP
    have hD : va_D A [(hm, .inr (5, [.ref m1, .ref m2, .ref m3, .int (iI ((pa : Nat) : Int)), .int (iI ((pb : Nat) : Int)), .ref m4, .int (iI ((cp : Nat) : Int)), .ref m5, .int (iI ((ty : Nat) : Int)), .ref m6, .int (iI ((nx : Nat) : Int)), .int (iI (fi)), .int (iI (se)), .int (iI ((le : Nat) : Int)), .ref m7, .int (iI (bp)), .ref m8])), (m1, .inl (cI, 516, .inl (rI (sF cn en ac cu co au er (up ki en 0) bs))))] := hD
    refine lv_aload_n hx hb dX5_opens_36 rfl (lv_at hl 2 rfl) ?_
    refine va_get (D := D) (ci := 5) (v := .ref m1) (C := RX5) (T := TX5) (N := 17) hx hb hts nX5_opens_X5 hown hK hP 0 rfl rfl 0 (by decide) (hts _ kX5_opens_7) (fun _ h9 => h9) rfl dX5_opens_37 ?_
    refine r_sipush hx hb dX5_opens_40 (by decide) ?_
    refine lv_iload hx hb dX5_opens_43 (lv_at hl 0 rfl) ?_
    refine r_iadd (v := ((500 + en : Nat) : Int)) hx hb (rfl) dX5_opens_45 ?_
    refine lv_iload_n hx hb dX5_opens_46 rfl (lv_at hl 1 rfl) ?_
    refine r_iconst hx hb dX5_opens_47 ?_
    refine r_icmp_ne (tgt := 55) hx hb (by omega) (⟨by decide, by decide⟩) dX5_opens_48 (by decide) (fun c_2 => ?_) (fun c_2 => ?_)
    · skip
      refine lv_aload_n hx hb dX5_opens_55 rfl (lv_at hl 2 rfl) ?_
      refine va_get (D := D) (ci := 5) (v := .ref m1) (C := RX5) (T := TX5) (N := 17) hx hb hts nX5_opens_X5 hown hK hP 0 rfl rfl 0 (by decide) (hts _ kX5_opens_7) (fun _ h9 => h9) rfl dX5_opens_56 ?_
      refine r_sipush hx hb dX5_opens_59 (by decide) ?_
      refine lv_iload_n hx hb dX5_opens_62 rfl (lv_at hl 1 rfl) ?_
      refine r_iadd (v := ((164 + an : Nat) : Int)) hx hb (rfl) dX5_opens_63 ?_
      refine r_ialdV (v := (au an)) hx hb hK hP 1 0 rfl rfl (164 + an) (rfl) (by omega) (by decide) (sF_au (by omega)) dX5_opens_64 ?_
      refine r_iastV (g := sF cn en ac cu co au er (up ki en 0) (up bs en (au an))) (v := (au an)) hx hb hK hP hD hS 1 0 rfl rfl (500 + en) (rfl) (by omega) (by decide) (sF_ubs (by omega)) dX5_opens_65 (fun H locs hP hD hS => ?_)
      have hP : va_P D vwCl [(hm, .inr (5, [.ref m1, .ref m2, .ref m3, .int (iI ((pa : Nat) : Int)), .int (iI ((pb : Nat) : Int)), .ref m4, .int (iI ((cp : Nat) : Int)), .ref m5, .int (iI ((ty : Nat) : Int)), .ref m6, .int (iI ((nx : Nat) : Int)), .int (iI (fi)), .int (iI (se)), .int (iI ((le : Nat) : Int)), .ref m7, .int (iI (bp)), .ref m8])), (m1, .inl (cI, 516, .inl (rI (sF cn en ac cu co au er (up ki en 0) (up bs en (au an))))))] H := hP
      have hD : va_D A [(hm, .inr (5, [.ref m1, .ref m2, .ref m3, .int (iI ((pa : Nat) : Int)), .int (iI ((pb : Nat) : Int)), .ref m4, .int (iI ((cp : Nat) : Int)), .ref m5, .int (iI ((ty : Nat) : Int)), .ref m6, .int (iI ((nx : Nat) : Int)), .int (iI (fi)), .int (iI (se)), .int (iI ((le : Nat) : Int)), .ref m7, .int (iI (bp)), .ref m8])), (m1, .inl (cI, 516, .inl (rI (sF cn en ac cu co au er (up ki en 0) (up bs en (au an))))))] := hD
      refine lv_aload_n hx hb dX5_opens_66 rfl (lv_at hl 2 rfl) ?_
      refine va_get (D := D) (ci := 5) (v := .ref m1) (C := RX5) (T := TX5) (N := 17) hx hb hts nX5_opens_X5 hown hK hP 0 rfl rfl 0 (by decide) (hts _ kX5_opens_7) (fun _ h9 => h9) rfl dX5_opens_67 ?_
      refine r_iconst hx hb dX5_opens_70 ?_
      refine lv_dup2_11 hx hb dX5_opens_71 rfl rfl ?_
      refine r_ialdV (v := ((en : Nat) : Int)) hx hb hK hP 1 0 rfl rfl (1) (rfl) (by decide) (by decide) (rfl) dX5_opens_72 ?_
      refine r_iconst hx hb dX5_opens_73 ?_
      refine r_iadd (v := ((en + 1 : Nat) : Int)) hx hb (rfl) dX5_opens_74 ?_
      refine r_iastV (g := sF cn (en + 1) ac cu co au er (up ki en 0) (up bs en (au an))) (v := ((en + 1 : Nat) : Int)) hx hb hK hP hD hS 1 0 rfl rfl (1) (rfl) (by decide) (by decide) (sF_uen) dX5_opens_75 (fun H locs hP hD hS => ?_)
      have hP : va_P D vwCl [(hm, .inr (5, [.ref m1, .ref m2, .ref m3, .int (iI ((pa : Nat) : Int)), .int (iI ((pb : Nat) : Int)), .ref m4, .int (iI ((cp : Nat) : Int)), .ref m5, .int (iI ((ty : Nat) : Int)), .ref m6, .int (iI ((nx : Nat) : Int)), .int (iI (fi)), .int (iI (se)), .int (iI ((le : Nat) : Int)), .ref m7, .int (iI (bp)), .ref m8])), (m1, .inl (cI, 516, .inl (rI (sF cn (en + 1) ac cu co au er (up ki en 0) (up bs en (au an))))))] H := hP
      have hD : va_D A [(hm, .inr (5, [.ref m1, .ref m2, .ref m3, .int (iI ((pa : Nat) : Int)), .int (iI ((pb : Nat) : Int)), .ref m4, .int (iI ((cp : Nat) : Int)), .ref m5, .int (iI ((ty : Nat) : Int)), .ref m6, .int (iI ((nx : Nat) : Int)), .int (iI (fi)), .int (iI (se)), .int (iI ((le : Nat) : Int)), .ref m7, .int (iI (bp)), .ref m8])), (m1, .inl (cI, 516, .inl (rI (sF cn (en + 1) ac cu co au er (up ki en 0) (up bs en (au an))))))] := hD
      refine lv_aload_n hx hb dX5_opens_76 rfl (lv_at hl 2 rfl) ?_
      refine va_get (D := D) (ci := 5) (v := .ref m1) (C := RX5) (T := TX5) (N := 17) hx hb hts nX5_opens_X5 hown hK hP 0 rfl rfl 0 (by decide) (hts _ kX5_opens_7) (fun _ h9 => h9) rfl dX5_opens_77 ?_
      refine r_iconst hx hb dX5_opens_80 ?_
      refine lv_dup2_11 hx hb dX5_opens_81 rfl rfl ?_
      refine r_ialdV (v := ((ac : Nat) : Int)) hx hb hK hP 1 0 rfl rfl (2) (rfl) (by decide) (by decide) (rfl) dX5_opens_82 ?_
      refine r_iconst hx hb dX5_opens_83 ?_
      refine lv_iload hx hb dX5_opens_84 (lv_at hl 0 rfl) ?_
      refine r_shl1 hx hb (en) (rfl) (by omega) dX5_opens_86 ?_
      refine r_ior hx hb (ac) (2 ^ en) (rfl) (rfl) dX5_opens_87 ?_
      refine r_iastV (g := sF cn (en + 1) (ac ||| (2 ^ en)) cu co au er (up ki en 0) (up bs en (au an))) (v := ((ac ||| (2 ^ en) : Nat) : Int)) hx hb hK hP hD hS 1 0 rfl rfl (2) (rfl) (by decide) (by decide) (sF_uac) dX5_opens_88 (fun H locs hP hD hS => ?_)
      have hP : va_P D vwCl [(hm, .inr (5, [.ref m1, .ref m2, .ref m3, .int (iI ((pa : Nat) : Int)), .int (iI ((pb : Nat) : Int)), .ref m4, .int (iI ((cp : Nat) : Int)), .ref m5, .int (iI ((ty : Nat) : Int)), .ref m6, .int (iI ((nx : Nat) : Int)), .int (iI (fi)), .int (iI (se)), .int (iI ((le : Nat) : Int)), .ref m7, .int (iI (bp)), .ref m8])), (m1, .inl (cI, 516, .inl (rI (sF cn (en + 1) (ac ||| (2 ^ en)) cu co au er (up ki en 0) (up bs en (au an))))))] H := hP
      have hD : va_D A [(hm, .inr (5, [.ref m1, .ref m2, .ref m3, .int (iI ((pa : Nat) : Int)), .int (iI ((pb : Nat) : Int)), .ref m4, .int (iI ((cp : Nat) : Int)), .ref m5, .int (iI ((ty : Nat) : Int)), .ref m6, .int (iI ((nx : Nat) : Int)), .int (iI (fi)), .int (iI (se)), .int (iI ((le : Nat) : Int)), .ref m7, .int (iI (bp)), .ref m8])), (m1, .inl (cI, 516, .inl (rI (sF cn (en + 1) (ac ||| (2 ^ en)) cu co au er (up ki en 0) (up bs en (au an))))))] := hD
      refine lv_aload_n hx hb dX5_opens_89 rfl (lv_at hl 2 rfl) ?_
      refine va_get (D := D) (ci := 5) (v := .ref m1) (C := RX5) (T := TX5) (N := 17) hx hb hts nX5_opens_X5 hown hK hP 0 rfl rfl 0 (by decide) (hts _ kX5_opens_7) (fun _ h9 => h9) rfl dX5_opens_90 ?_
      refine r_iconst hx hb dX5_opens_93 ?_
      refine r_ialdV (v := ((cn : Nat) : Int)) hx hb hK hP 1 0 rfl rfl (0) (rfl) (by decide) (by decide) (rfl) dX5_opens_94 ?_
      refine r_iconst hx hb dX5_opens_95 ?_
      refine r_isub (v := (((cn : Nat) : Int) - 1)) hx hb (rfl) dX5_opens_96 ?_
      refine lv_istore (lv' := [(5, .int (iI (((cn : Nat) : Int) - 1))), (4, .int (iI ((en : Nat) : Int))), (3, .int (iI ((an : Nat) : Int))), (0, .ref hm), (1, .int (iI ((g1 + 1 : Nat) : Int))), (2, .int (iI ((mo : Nat) : Int)))]) hx hb dX5_opens_97 hl (by decide) rfl (fun ls hl => ?_)
      have loop_99 : ∀ (n_99 : Nat) (b : Nat), (b - (an + 1)) < n_99 → (b ≤ cn) → (an + 1 ≤ b) → ∀ (H : Heap) (locs : List Loc), va_P D vwCl [(hm, .inr (5, [.ref m1, .ref m2, .ref m3, .int (iI ((pa : Nat) : Int)), .int (iI ((pb : Nat) : Int)), .ref m4, .int (iI ((cp : Nat) : Int)), .ref m5, .int (iI ((ty : Nat) : Int)), .ref m6, .int (iI ((nx : Nat) : Int)), .int (iI (fi)), .int (iI (se)), .int (iI ((le : Nat) : Int)), .ref m7, .int (iI (bp)), .ref m8])), (m1, .inl (cI, 516, .inl (rI (sF cn (en + 1) (ac ||| 2 ^ en) cu (shF co b mo cn) (shI au b mo cn) (shF er b mo cn) (up ki en (0)) (up bs en (au an))))))] H → va_D A [(hm, .inr (5, [.ref m1, .ref m2, .ref m3, .int (iI ((pa : Nat) : Int)), .int (iI ((pb : Nat) : Int)), .ref m4, .int (iI ((cp : Nat) : Int)), .ref m5, .int (iI ((ty : Nat) : Int)), .ref m6, .int (iI ((nx : Nat) : Int)), .int (iI (fi)), .int (iI (se)), .int (iI ((le : Nat) : Int)), .ref m7, .int (iI (bp)), .ref m8])), (m1, .inl (cI, 516, .inl (rI (sF cn (en + 1) (ac ||| 2 ^ en) cu (shF co b mo cn) (shI au b mo cn) (shF er b mo cn) (up ki en (0)) (up bs en (au an))))))] → va_S A s.heap H locs → ∀ (ls : Array Slot), lv_has ls 6 [(0, .ref hm), (1, .int (iI ((g1 + 1 : Nat) : Int))), (2, .int (iI ((mo : Nat) : Int))), (3, .int (iI ((an : Nat) : Int))), (4, .int (iI ((en : Nat) : Int))), (5, .int (iI (((b : Nat) : Int) - 1)))] → W p l e ({ frames := 2, cells := 0, slots := 0, locals := 46 }) s m ([.ref hm, .int (iI ((g1 + 1 : Nat) : Int)), .int (iI ((mo : Nat) : Int))] : List Value).toArray below meth c H locs 0 0 (MQ below (QX D (S := Unit) (fun u => some (.int (iI ((an + 1 : Nat) : Int)))) (fun u => True) (fun u => [(hm, .inr (5, [.ref m1, .ref m2, .ref m3, .int (iI ((pa : Nat) : Int)), .int (iI ((pb : Nat) : Int)), .ref m4, .int (iI ((cp : Nat) : Int)), .ref m5, .int (iI ((ty : Nat) : Int)), .ref m6, .int (iI ((nx : Nat) : Int)), .int (iI (fi)), .int (iI (se)), .int (iI ((le : Nat) : Int)), .ref m7, .int (iI (bp)), .ref m8])), (m1, .inl (cI, 516, .inl (rI (sF (cn + mo) (en + 1) (ac ||| 2 ^ en) cu (shF co (an + 1) mo cn) (shI au (an + 1) mo cn) (shF er (an + 1) mo cn) (up ki en (0)) (up bs en (au an))))))]) A) ([.ref hm, .int (iI ((g1 + 1 : Nat) : Int)), .int (iI ((mo : Nat) : Int))] : List Value).toArray s 0 0 A) (F0 m 99 ls []) := by
        intro n_99
        induction n_99 with
        | zero => intro b h_meas; exact absurd h_meas (Nat.not_lt_zero _)
        | succ n_99 ih_99 =>
          intro b h_m99 ib ib1 H locs hP hD hS ls hl
          refine lv_iload hx hb dX5_opens_99 (lv_at hl 5 rfl) ?_
          refine lv_iload_n hx hb dX5_opens_101 rfl (lv_at hl 3 rfl) ?_
          refine r_icmp_le (tgt := 179) hx hb (by omega) (by omega) dX5_opens_102 (by decide) (fun c_3 => ?_) (fun c_3 => ?_)
          · skip
            obtain rfl : b = an + 1 := by omega
            refine lv_aload_n hx hb dX5_opens_179 rfl (lv_at hl 0 rfl) ?_
            refine va_get (D := D) (ci := 5) (v := .ref m1) (C := RX5) (T := TX5) (N := 17) hx hb hts nX5_opens_X5 hown hK hP 0 rfl rfl 0 (by decide) (hts _ kX5_opens_7) (fun _ h9 => h9) rfl dX5_opens_180 ?_
            refine r_iconst hx hb dX5_opens_183 ?_
            refine lv_dup2_11 hx hb dX5_opens_184 rfl rfl ?_
            refine r_ialdV (v := ((cn : Nat) : Int)) hx hb hK hP 1 0 rfl rfl (0) (rfl) (by decide) (by decide) (rfl) dX5_opens_185 ?_
            refine lv_iload_n hx hb dX5_opens_186 rfl (lv_at hl 2 rfl) ?_
            refine r_iadd (v := ((cn + mo : Nat) : Int)) hx hb (rfl) dX5_opens_187 ?_
            refine r_iastV (g := sF (cn + mo) (en + 1) (ac ||| 2 ^ en) cu (shF co (an + 1) mo cn) (shI au (an + 1) mo cn) (shF er (an + 1) mo cn) (up ki en (0)) (up bs en (au an))) (v := ((cn + mo : Nat) : Int)) hx hb hK hP hD hS 1 0 rfl rfl (0) (rfl) (by decide) (by decide) (sF_ucn) dX5_opens_188 (fun H locs hP hD hS => ?_)
            have hP : va_P D vwCl [(hm, .inr (5, [.ref m1, .ref m2, .ref m3, .int (iI ((pa : Nat) : Int)), .int (iI ((pb : Nat) : Int)), .ref m4, .int (iI ((cp : Nat) : Int)), .ref m5, .int (iI ((ty : Nat) : Int)), .ref m6, .int (iI ((nx : Nat) : Int)), .int (iI (fi)), .int (iI (se)), .int (iI ((le : Nat) : Int)), .ref m7, .int (iI (bp)), .ref m8])), (m1, .inl (cI, 516, .inl (rI (sF (cn + mo) (en + 1) (ac ||| 2 ^ en) cu (shF co (an + 1) mo cn) (shI au (an + 1) mo cn) (shF er (an + 1) mo cn) (up ki en (0)) (up bs en (au an))))))] H := hP
            have hD : va_D A [(hm, .inr (5, [.ref m1, .ref m2, .ref m3, .int (iI ((pa : Nat) : Int)), .int (iI ((pb : Nat) : Int)), .ref m4, .int (iI ((cp : Nat) : Int)), .ref m5, .int (iI ((ty : Nat) : Int)), .ref m6, .int (iI ((nx : Nat) : Int)), .int (iI (fi)), .int (iI (se)), .int (iI ((le : Nat) : Int)), .ref m7, .int (iI (bp)), .ref m8])), (m1, .inl (cI, 516, .inl (rI (sF (cn + mo) (en + 1) (ac ||| 2 ^ en) cu (shF co (an + 1) mo cn) (shI au (an + 1) mo cn) (shF er (an + 1) mo cn) (up ki en (0)) (up bs en (au an))))))] := hD
            refine lv_iload_n hx hb dX5_opens_189 rfl (lv_at hl 3 rfl) ?_
            refine r_iconst hx hb dX5_opens_190 ?_
            refine r_iadd (v := ((an + 1 : Nat) : Int)) hx hb (rfl) dX5_opens_191 ?_
            exact r_iretX hx hb hr hlocks hP hD hS () (rfl) (trivial) rfl dX5_opens_192
          · skip
            have hl : lv_has ls 6 [(0, .ref hm), (1, .int (iI ((g1 + 1 : Nat) : Int))), (2, .int (iI ((mo : Nat) : Int))), (3, .int (iI ((an : Nat) : Int))), (4, .int (iI ((en : Nat) : Int))), (5, .int (iI ((b - 1 : Nat) : Int)))] := lv_chg hl 5 5 rfl (show ((((b : Nat) : Int) - 1) : Int) = ((b - 1 : Nat) : Int) from by omega) rfl
            refine lv_aload_n hx hb dX5_opens_105 rfl (lv_at hl 0 rfl) ?_
            refine va_get (D := D) (ci := 5) (v := .ref m1) (C := RX5) (T := TX5) (N := 17) hx hb hts nX5_opens_X5 hown hK hP 0 rfl rfl 0 (by decide) (hts _ kX5_opens_7) (fun _ h9 => h9) rfl dX5_opens_106 ?_
            refine r_iconst hx hb dX5_opens_109 ?_
            refine lv_iload hx hb dX5_opens_110 (lv_at hl 5 rfl) ?_
            refine r_iadd (v := ((4 + (b - 1) : Nat) : Int)) hx hb (rfl) dX5_opens_112 ?_
            refine lv_iload_n hx hb dX5_opens_113 rfl (lv_at hl 2 rfl) ?_
            refine r_iadd (v := (((4 + (b - 1)) + mo : Nat) : Int)) hx hb (rfl) dX5_opens_114 ?_
            refine lv_aload_n hx hb dX5_opens_115 rfl (lv_at hl 0 rfl) ?_
            refine va_get (D := D) (ci := 5) (v := .ref m1) (C := RX5) (T := TX5) (N := 17) hx hb hts nX5_opens_X5 hown hK hP 0 rfl rfl 0 (by decide) (hts _ kX5_opens_7) (fun _ h9 => h9) rfl dX5_opens_116 ?_
            refine r_iconst hx hb dX5_opens_119 ?_
            refine lv_iload hx hb dX5_opens_120 (lv_at hl 5 rfl) ?_
            refine r_iadd (v := ((4 + (b - 1) : Nat) : Int)) hx hb (rfl) dX5_opens_122 ?_
            refine r_ialdV (v := (((shF co b mo cn) (b - 1) : Nat) : Int)) hx hb hK hP 1 0 rfl rfl (4 + (b - 1)) (rfl) (by omega) (by decide) (sF_co (by omega)) dX5_opens_123 ?_
            refine r_iastV (g := sF cn (en + 1) (ac ||| 2 ^ en) cu (up (shF co b mo cn) ((b - 1) + mo) ((shF co b mo cn) (b - 1))) (shI au b mo cn) (shF er b mo cn) (up ki en (0)) (up bs en (au an))) (v := (((shF co b mo cn) (b - 1) : Nat) : Int)) hx hb hK hP hD hS 1 0 rfl rfl ((4 + (b - 1)) + mo) (rfl) (by omega) (by decide) ((by rw [Nat.add_assoc]; exact sF_uco (by omega))) dX5_opens_124 (fun H locs hP hD hS => ?_)
            have hP : va_P D vwCl [(hm, .inr (5, [.ref m1, .ref m2, .ref m3, .int (iI ((pa : Nat) : Int)), .int (iI ((pb : Nat) : Int)), .ref m4, .int (iI ((cp : Nat) : Int)), .ref m5, .int (iI ((ty : Nat) : Int)), .ref m6, .int (iI ((nx : Nat) : Int)), .int (iI (fi)), .int (iI (se)), .int (iI ((le : Nat) : Int)), .ref m7, .int (iI (bp)), .ref m8])), (m1, .inl (cI, 516, .inl (rI (sF cn (en + 1) (ac ||| 2 ^ en) cu (up (shF co b mo cn) ((b - 1) + mo) ((shF co b mo cn) (b - 1))) (shI au b mo cn) (shF er b mo cn) (up ki en (0)) (up bs en (au an))))))] H := hP
            have hD : va_D A [(hm, .inr (5, [.ref m1, .ref m2, .ref m3, .int (iI ((pa : Nat) : Int)), .int (iI ((pb : Nat) : Int)), .ref m4, .int (iI ((cp : Nat) : Int)), .ref m5, .int (iI ((ty : Nat) : Int)), .ref m6, .int (iI ((nx : Nat) : Int)), .int (iI (fi)), .int (iI (se)), .int (iI ((le : Nat) : Int)), .ref m7, .int (iI (bp)), .ref m8])), (m1, .inl (cI, 516, .inl (rI (sF cn (en + 1) (ac ||| 2 ^ en) cu (up (shF co b mo cn) ((b - 1) + mo) ((shF co b mo cn) (b - 1))) (shI au b mo cn) (shF er b mo cn) (up ki en (0)) (up bs en (au an))))))] := hD
            refine lv_aload_n hx hb dX5_opens_125 rfl (lv_at hl 0 rfl) ?_
            refine va_get (D := D) (ci := 5) (v := .ref m1) (C := RX5) (T := TX5) (N := 17) hx hb hts nX5_opens_X5 hown hK hP 0 rfl rfl 0 (by decide) (hts _ kX5_opens_7) (fun _ h9 => h9) rfl dX5_opens_126 ?_
            refine r_sipush hx hb dX5_opens_129 (by decide) ?_
            refine lv_iload hx hb dX5_opens_132 (lv_at hl 5 rfl) ?_
            refine r_iadd (v := ((164 + (b - 1) : Nat) : Int)) hx hb (rfl) dX5_opens_134 ?_
            refine lv_iload_n hx hb dX5_opens_135 rfl (lv_at hl 2 rfl) ?_
            refine r_iadd (v := (((164 + (b - 1)) + mo : Nat) : Int)) hx hb (rfl) dX5_opens_136 ?_
            refine lv_aload_n hx hb dX5_opens_137 rfl (lv_at hl 0 rfl) ?_
            refine va_get (D := D) (ci := 5) (v := .ref m1) (C := RX5) (T := TX5) (N := 17) hx hb hts nX5_opens_X5 hown hK hP 0 rfl rfl 0 (by decide) (hts _ kX5_opens_7) (fun _ h9 => h9) rfl dX5_opens_138 ?_
            refine r_sipush hx hb dX5_opens_141 (by decide) ?_
            refine lv_iload hx hb dX5_opens_144 (lv_at hl 5 rfl) ?_
            refine r_iadd (v := ((164 + (b - 1) : Nat) : Int)) hx hb (rfl) dX5_opens_146 ?_
            refine r_ialdV (v := ((shI au b mo cn) (b - 1))) hx hb hK hP 1 0 rfl rfl (164 + (b - 1)) (rfl) (by omega) (by decide) (sF_au (by omega)) dX5_opens_147 ?_
            refine r_iastV (g := sF cn (en + 1) (ac ||| 2 ^ en) cu (up (shF co b mo cn) ((b - 1) + mo) ((shF co b mo cn) (b - 1))) (up (shI au b mo cn) ((b - 1) + mo) ((shI au b mo cn) (b - 1))) (shF er b mo cn) (up ki en (0)) (up bs en (au an))) (v := ((shI au b mo cn) (b - 1))) hx hb hK hP hD hS 1 0 rfl rfl ((164 + (b - 1)) + mo) (rfl) (by omega) (by decide) ((by rw [Nat.add_assoc]; exact sF_uau (by omega))) dX5_opens_148 (fun H locs hP hD hS => ?_)
            have hP : va_P D vwCl [(hm, .inr (5, [.ref m1, .ref m2, .ref m3, .int (iI ((pa : Nat) : Int)), .int (iI ((pb : Nat) : Int)), .ref m4, .int (iI ((cp : Nat) : Int)), .ref m5, .int (iI ((ty : Nat) : Int)), .ref m6, .int (iI ((nx : Nat) : Int)), .int (iI (fi)), .int (iI (se)), .int (iI ((le : Nat) : Int)), .ref m7, .int (iI (bp)), .ref m8])), (m1, .inl (cI, 516, .inl (rI (sF cn (en + 1) (ac ||| 2 ^ en) cu (up (shF co b mo cn) ((b - 1) + mo) ((shF co b mo cn) (b - 1))) (up (shI au b mo cn) ((b - 1) + mo) ((shI au b mo cn) (b - 1))) (shF er b mo cn) (up ki en (0)) (up bs en (au an))))))] H := hP
            have hD : va_D A [(hm, .inr (5, [.ref m1, .ref m2, .ref m3, .int (iI ((pa : Nat) : Int)), .int (iI ((pb : Nat) : Int)), .ref m4, .int (iI ((cp : Nat) : Int)), .ref m5, .int (iI ((ty : Nat) : Int)), .ref m6, .int (iI ((nx : Nat) : Int)), .int (iI (fi)), .int (iI (se)), .int (iI ((le : Nat) : Int)), .ref m7, .int (iI (bp)), .ref m8])), (m1, .inl (cI, 516, .inl (rI (sF cn (en + 1) (ac ||| 2 ^ en) cu (up (shF co b mo cn) ((b - 1) + mo) ((shF co b mo cn) (b - 1))) (up (shI au b mo cn) ((b - 1) + mo) ((shI au b mo cn) (b - 1))) (shF er b mo cn) (up ki en (0)) (up bs en (au an))))))] := hD
            refine lv_aload_n hx hb dX5_opens_149 rfl (lv_at hl 0 rfl) ?_
            refine va_get (D := D) (ci := 5) (v := .ref m1) (C := RX5) (T := TX5) (N := 17) hx hb hts nX5_opens_X5 hown hK hP 0 rfl rfl 0 (by decide) (hts _ kX5_opens_7) (fun _ h9 => h9) rfl dX5_opens_150 ?_
            refine r_sipush hx hb dX5_opens_153 (by decide) ?_
            refine lv_iload hx hb dX5_opens_156 (lv_at hl 5 rfl) ?_
            refine r_iadd (v := ((324 + (b - 1) : Nat) : Int)) hx hb (rfl) dX5_opens_158 ?_
            refine lv_iload_n hx hb dX5_opens_159 rfl (lv_at hl 2 rfl) ?_
            refine r_iadd (v := (((324 + (b - 1)) + mo : Nat) : Int)) hx hb (rfl) dX5_opens_160 ?_
            refine lv_aload_n hx hb dX5_opens_161 rfl (lv_at hl 0 rfl) ?_
            refine va_get (D := D) (ci := 5) (v := .ref m1) (C := RX5) (T := TX5) (N := 17) hx hb hts nX5_opens_X5 hown hK hP 0 rfl rfl 0 (by decide) (hts _ kX5_opens_7) (fun _ h9 => h9) rfl dX5_opens_162 ?_
            refine r_sipush hx hb dX5_opens_165 (by decide) ?_
            refine lv_iload hx hb dX5_opens_168 (lv_at hl 5 rfl) ?_
            refine r_iadd (v := ((324 + (b - 1) : Nat) : Int)) hx hb (rfl) dX5_opens_170 ?_
            refine r_ialdV (v := (((shF er b mo cn) (b - 1) : Nat) : Int)) hx hb hK hP 1 0 rfl rfl (324 + (b - 1)) (rfl) (by omega) (by decide) (sF_er (by omega)) dX5_opens_171 ?_
            refine r_iastV (g := sF cn (en + 1) (ac ||| 2 ^ en) cu (up (shF co b mo cn) ((b - 1) + mo) ((shF co b mo cn) (b - 1))) (up (shI au b mo cn) ((b - 1) + mo) ((shI au b mo cn) (b - 1))) (up (shF er b mo cn) ((b - 1) + mo) ((shF er b mo cn) (b - 1))) (up ki en (0)) (up bs en (au an))) (v := (((shF er b mo cn) (b - 1) : Nat) : Int)) hx hb hK hP hD hS 1 0 rfl rfl ((324 + (b - 1)) + mo) (rfl) (by omega) (by decide) ((by rw [Nat.add_assoc]; exact sF_uer (by omega))) dX5_opens_172 (fun H locs hP hD hS => ?_)
            have hP : va_P D vwCl [(hm, .inr (5, [.ref m1, .ref m2, .ref m3, .int (iI ((pa : Nat) : Int)), .int (iI ((pb : Nat) : Int)), .ref m4, .int (iI ((cp : Nat) : Int)), .ref m5, .int (iI ((ty : Nat) : Int)), .ref m6, .int (iI ((nx : Nat) : Int)), .int (iI (fi)), .int (iI (se)), .int (iI ((le : Nat) : Int)), .ref m7, .int (iI (bp)), .ref m8])), (m1, .inl (cI, 516, .inl (rI (sF cn (en + 1) (ac ||| 2 ^ en) cu (up (shF co b mo cn) ((b - 1) + mo) ((shF co b mo cn) (b - 1))) (up (shI au b mo cn) ((b - 1) + mo) ((shI au b mo cn) (b - 1))) (up (shF er b mo cn) ((b - 1) + mo) ((shF er b mo cn) (b - 1))) (up ki en (0)) (up bs en (au an))))))] H := hP
            have hD : va_D A [(hm, .inr (5, [.ref m1, .ref m2, .ref m3, .int (iI ((pa : Nat) : Int)), .int (iI ((pb : Nat) : Int)), .ref m4, .int (iI ((cp : Nat) : Int)), .ref m5, .int (iI ((ty : Nat) : Int)), .ref m6, .int (iI ((nx : Nat) : Int)), .int (iI (fi)), .int (iI (se)), .int (iI ((le : Nat) : Int)), .ref m7, .int (iI (bp)), .ref m8])), (m1, .inl (cI, 516, .inl (rI (sF cn (en + 1) (ac ||| 2 ^ en) cu (up (shF co b mo cn) ((b - 1) + mo) ((shF co b mo cn) (b - 1))) (up (shI au b mo cn) ((b - 1) + mo) ((shI au b mo cn) (b - 1))) (up (shF er b mo cn) ((b - 1) + mo) ((shF er b mo cn) (b - 1))) (up ki en (0)) (up bs en (au an))))))] := hD
            refine lv_iinc (v := iI (((b - 1 : Nat) : Int) + (-1))) (lv' := [(5, .int (iI (((b - 1 : Nat) : Int) + (-1)))), (0, .ref hm), (1, .int (iI ((g1 + 1 : Nat) : Int))), (2, .int (iI ((mo : Nat) : Int))), (3, .int (iI ((an : Nat) : Int))), (4, .int (iI ((en : Nat) : Int)))]) hx hb dX5_opens_173 hl (k := 5) rfl ((iI_add _ _).trans (ii (rfl))) (by decide) rfl (fun ls hl => ?_)
            refine lv_goto (tgt := 99) hx hb dX5_opens_176 (by decide) ?_
            have hww : ([(hm, .inr (5, [.ref m1, .ref m2, .ref m3, .int (iI ((pa : Nat) : Int)), .int (iI ((pb : Nat) : Int)), .ref m4, .int (iI ((cp : Nat) : Int)), .ref m5, .int (iI ((ty : Nat) : Int)), .ref m6, .int (iI ((nx : Nat) : Int)), .int (iI (fi)), .int (iI (se)), .int (iI ((le : Nat) : Int)), .ref m7, .int (iI (bp)), .ref m8])), (m1, .inl (cI, 516, .inl (rI (sF cn (en + 1) (ac ||| 2 ^ en) cu (up (shF co b mo cn) ((b - 1) + mo) ((shF co b mo cn) (b - 1))) (up (shI au b mo cn) ((b - 1) + mo) ((shI au b mo cn) (b - 1))) (up (shF er b mo cn) ((b - 1) + mo) ((shF er b mo cn) (b - 1))) (up ki en (0)) (up bs en (au an))))))] : va_W) = [(hm, .inr (5, [.ref m1, .ref m2, .ref m3, .int (iI ((pa : Nat) : Int)), .int (iI ((pb : Nat) : Int)), .ref m4, .int (iI ((cp : Nat) : Int)), .ref m5, .int (iI ((ty : Nat) : Int)), .ref m6, .int (iI ((nx : Nat) : Int)), .int (iI (fi)), .int (iI (se)), .int (iI ((le : Nat) : Int)), .ref m7, .int (iI (bp)), .ref m8])), (m1, .inl (cI, 516, .inl (rI (sF cn (en + 1) (ac ||| 2 ^ en) cu (shF co (b - 1) mo cn) (shI au (b - 1) mo cn) (shF er (b - 1) mo cn) (up ki en (0)) (up bs en (au an))))))] := by rw [show shF co b mo cn = shF co (b - 1 + 1) mo cn by rw [show b - 1 + 1 = b by omega], show shI au b mo cn = shI au (b - 1 + 1) mo cn by rw [show b - 1 + 1 = b by omega], show shF er b mo cn = shF er (b - 1 + 1) mo cn by rw [show b - 1 + 1 = b by omega], shF_up (by omega), shI_up (by omega), shF_up (by omega)]
            rw [hww] at hP hD
            have hl : lv_has ls 6 [(5, .int (iI ((((b - 1) : Nat) : Int) - 1))), (0, .ref hm), (1, .int (iI ((g1 + 1 : Nat) : Int))), (2, .int (iI ((mo : Nat) : Int))), (3, .int (iI ((an : Nat) : Int))), (4, .int (iI ((en : Nat) : Int)))] := lv_chg hl 0 5 rfl (show ((((b - 1 : Nat) : Int) + (-1)) : Int) = ((((b - 1) : Nat) : Int) - 1) from by omega) rfl
            exact ih_99 (b - 1) (by omega) (by first | assumption | (omega)) (by first | assumption | (omega)) H locs hP hD hS ls (lv_sub hl [1, 2, 3, 4, 5, 0] rfl)
      have hww : ([(hm, .inr (5, [.ref m1, .ref m2, .ref m3, .int (iI ((pa : Nat) : Int)), .int (iI ((pb : Nat) : Int)), .ref m4, .int (iI ((cp : Nat) : Int)), .ref m5, .int (iI ((ty : Nat) : Int)), .ref m6, .int (iI ((nx : Nat) : Int)), .int (iI (fi)), .int (iI (se)), .int (iI ((le : Nat) : Int)), .ref m7, .int (iI (bp)), .ref m8])), (m1, .inl (cI, 516, .inl (rI (sF cn (en + 1) (ac ||| (2 ^ en)) cu co au er (up ki en 0) (up bs en (au an))))))] : va_W) = [(hm, .inr (5, [.ref m1, .ref m2, .ref m3, .int (iI ((pa : Nat) : Int)), .int (iI ((pb : Nat) : Int)), .ref m4, .int (iI ((cp : Nat) : Int)), .ref m5, .int (iI ((ty : Nat) : Int)), .ref m6, .int (iI ((nx : Nat) : Int)), .int (iI (fi)), .int (iI (se)), .int (iI ((le : Nat) : Int)), .ref m7, .int (iI (bp)), .ref m8])), (m1, .inl (cI, 516, .inl (rI (sF cn (en + 1) (ac ||| 2 ^ en) cu (shF co cn mo cn) (shI au cn mo cn) (shF er cn mo cn) (up ki en (0)) (up bs en (au an))))))] := by rw [shF_0, shI_0, shF_0]
      rw [hww] at hP hD
      exact loop_99 ((cn - (an + 1)) + 1) cn (by omega) (by first | assumption | (omega)) (by first | assumption | (omega)) H locs hP hD hS ls (lv_sub hl [3, 4, 5, 2, 1, 0] rfl)
    · skip
      exfalso; omega
  · skip
    exfalso; omega

set_option maxHeartbeats 4000000 in
set_option maxRecDepth 100000 in
theorem m_opens_0 (l : Launch) (D : va_G) (cI cB cZ cO : ClassId) (sz : Nat) (hm : Nat) (m1 : Nat) (m2 : Nat) (m3 : Nat) (m4 : Nat) (m5 : Nat) (m6 : Nat) (m7 : Nat) (m8 : Nat) (pa : Nat) (pb : Nat) (cp : Nat) (ty : Nat) (nx : Nat) (fi : Int) (se : Int) (le : Nat) (bp : Int) (cn : Nat) (en : Nat) (ac : Nat) (cu : Nat) (co : Nat → Nat) (au : Nat → Int) (er : Nat → Nat) (ki : Nat → Nat) (bs : Nat → Int) (mo : Nat) (hcn : cn ≤ 160) (hac : ac < 65536) (hau : ∀ k, -1 ≤ au k ∧ au k < 16) (her : ∀ k, er k < 65536) (hbs : ∀ k, -1 ≤ bs k ∧ bs k < 16) (hen : en < 16) (hmo : cn + mo ≤ 160) : Met l yX5_opens wsX5_opens ({ frames := 0, cells := 0, slots := 0, locals := 0 }) (va_Pc [.ref hm, .int (iI 0), .int (iI ((mo : Nat) : Int))] (RW D cI cB cZ cO sz [(hm, .inr (5, [.ref m1, .ref m2, .ref m3, .int (iI ((pa : Nat) : Int)), .int (iI ((pb : Nat) : Int)), .ref m4, .int (iI ((cp : Nat) : Int)), .ref m5, .int (iI ((ty : Nat) : Int)), .ref m6, .int (iI ((nx : Nat) : Int)), .int (iI (fi)), .int (iI (se)), .int (iI ((le : Nat) : Int)), .ref m7, .int (iI (bp)), .ref m8])), (m1, .inl (cI, 516, .inl (rI (sF cn en ac cu co au er ki bs))))])) (QX D (S := Unit) (fun u => some (.int (iI 0))) (fun u => True) (fun u => [(hm, .inr (5, [.ref m1, .ref m2, .ref m3, .int (iI ((pa : Nat) : Int)), .int (iI ((pb : Nat) : Int)), .ref m4, .int (iI ((cp : Nat) : Int)), .ref m5, .int (iI ((ty : Nat) : Int)), .ref m6, .int (iI ((nx : Nat) : Int)), .int (iI (fi)), .int (iI (se)), .int (iI ((le : Nat) : Int)), .ref m7, .int (iI (bp)), .ref m8])), (m1, .inl (cI, 516, .inl (rI (sF (cn + mo) (en + 1) (ac ||| 2 ^ en) cu (shF co 0 mo cn) (shI au 0 mo cn) (shF er 0 mo cn) (up ki en (0)) (up bs en (-1))))))]) (va_A [(hm, .inr (5, [.ref m1, .ref m2, .ref m3, .int (iI ((pa : Nat) : Int)), .int (iI ((pb : Nat) : Int)), .ref m4, .int (iI ((cp : Nat) : Int)), .ref m5, .int (iI ((ty : Nat) : Int)), .ref m6, .int (iI ((nx : Nat) : Int)), .int (iI (fi)), .int (iI (se)), .int (iI ((le : Nat) : Int)), .ref m7, .int (iI (bp)), .ref m8])), (m1, .inl (cI, 516, .inl (rI (sF cn en ac cu co au er ki bs))))] sz)) 0 0 (va_A [(hm, .inr (5, [.ref m1, .ref m2, .ref m3, .int (iI ((pa : Nat) : Int)), .int (iI ((pb : Nat) : Int)), .ref m4, .int (iI ((cp : Nat) : Int)), .ref m5, .int (iI ((ty : Nat) : Int)), .ref m6, .int (iI ((nx : Nat) : Int)), .int (iI (fi)), .int (iI (se)), .int (iI ((le : Nat) : Int)), .ref m7, .int (iI (bp)), .ref m8])), (m1, .inl (cI, 516, .inl (rI (sF cn en ac cu co au er ki bs))))] sz) := by
  refine startW (cc := cX5_opens) (maxL := 6) (ret := (some .int)) (by decide) rfl (Nat.le_of_ble_eq_true rfl) ?_
  intro p e s m below meth c S hr hlocks hE hP A hD hA hS ls hl
  have hx := S.1
  have hb := S.2.1
  have hown := S.2.2.2.1
  have hts := S.2.2.2.2
  have hK := hE.1
  have hl : lv_has ls 6 [(0, .ref hm), (1, .int (iI 0)), (2, .int (iI ((mo : Nat) : Int)))] := hl
  refine lv_iload_n hx hb dX5_opens_0 rfl (lv_at hl 1 rfl) ?_
  refine r_if_ne (tgt := 8) hx hb (⟨by decide, by decide⟩) dX5_opens_1 (by decide) (fun c_1 => ?_) (fun c_1 => ?_)
  · skip
    exact absurd c_1 (by decide)
  · skip
    refine r_iconst hx hb dX5_opens_4 ?_
    refine lv_goto (tgt := 15) hx hb dX5_opens_5 (by decide) ?_
    refine lv_istore_n (lv' := [(3, .int (iI (-1))), (0, .ref hm), (1, .int (iI 0)), (2, .int (iI ((mo : Nat) : Int)))]) hx hb dX5_opens_15 rfl hl (by decide) rfl (fun ls hl => ?_)
    refine lv_aload_n hx hb dX5_opens_16 rfl (lv_at hl 1 rfl) ?_
    refine va_get (D := D) (ci := 5) (v := .ref m1) (C := RX5) (T := TX5) (N := 17) hx hb hts nX5_opens_X5 hown hK hP 0 rfl rfl 0 (by decide) (hts _ kX5_opens_7) (fun _ h9 => h9) rfl dX5_opens_17 ?_
    refine r_iconst hx hb dX5_opens_20 ?_
    refine r_ialdV (v := ((en : Nat) : Int)) hx hb hK hP 1 0 rfl rfl (1) (rfl) (by decide) (by decide) (rfl) dX5_opens_21 ?_
    refine lv_istore (lv' := [(4, .int (iI ((en : Nat) : Int))), (3, .int (iI (-1))), (0, .ref hm), (1, .int (iI 0)), (2, .int (iI ((mo : Nat) : Int)))]) hx hb dX5_opens_22 hl (by decide) rfl (fun ls hl => ?_)
    refine lv_aload_n hx hb dX5_opens_24 rfl (lv_at hl 2 rfl) ?_
    refine va_get (D := D) (ci := 5) (v := .ref m1) (C := RX5) (T := TX5) (N := 17) hx hb hts nX5_opens_X5 hown hK hP 0 rfl rfl 0 (by decide) (hts _ kX5_opens_7) (fun _ h9 => h9) rfl dX5_opens_25 ?_
    refine r_sipush hx hb dX5_opens_28 (by decide) ?_
    refine lv_iload hx hb dX5_opens_31 (lv_at hl 0 rfl) ?_
    refine r_iadd (v := ((484 + en : Nat) : Int)) hx hb (rfl) dX5_opens_33 ?_
    refine r_iconst hx hb dX5_opens_34 ?_
    refine r_iastV (g := sF cn en ac cu co au er (up ki en 0) bs) (v := ((0 : Nat) : Int)) hx hb hK hP hD hS 1 0 rfl rfl (484 + en) (rfl) (by omega) (by decide) (sF_uki (by omega)) dX5_opens_35 (fun H locs hP hD hS => ?_)
    have hP : va_P D vwCl [(hm, .inr (5, [.ref m1, .ref m2, .ref m3, .int (iI ((pa : Nat) : Int)), .int (iI ((pb : Nat) : Int)), .ref m4, .int (iI ((cp : Nat) : Int)), .ref m5, .int (iI ((ty : Nat) : Int)), .ref m6, .int (iI ((nx : Nat) : Int)), .int (iI (fi)), .int (iI (se)), .int (iI ((le : Nat) : Int)), .ref m7, .int (iI (bp)), .ref m8])), (m1, .inl (cI, 516, .inl (rI (sF cn en ac cu co au er (up ki en 0) bs))))] H := hP
    have hD : va_D A [(hm, .inr (5, [.ref m1, .ref m2, .ref m3, .int (iI ((pa : Nat) : Int)), .int (iI ((pb : Nat) : Int)), .ref m4, .int (iI ((cp : Nat) : Int)), .ref m5, .int (iI ((ty : Nat) : Int)), .ref m6, .int (iI ((nx : Nat) : Int)), .int (iI (fi)), .int (iI (se)), .int (iI ((le : Nat) : Int)), .ref m7, .int (iI (bp)), .ref m8])), (m1, .inl (cI, 516, .inl (rI (sF cn en ac cu co au er (up ki en 0) bs))))] := hD
    refine lv_aload_n hx hb dX5_opens_36 rfl (lv_at hl 2 rfl) ?_
    refine va_get (D := D) (ci := 5) (v := .ref m1) (C := RX5) (T := TX5) (N := 17) hx hb hts nX5_opens_X5 hown hK hP 0 rfl rfl 0 (by decide) (hts _ kX5_opens_7) (fun _ h9 => h9) rfl dX5_opens_37 ?_
    refine r_sipush hx hb dX5_opens_40 (by decide) ?_
    refine lv_iload hx hb dX5_opens_43 (lv_at hl 0 rfl) ?_
    refine r_iadd (v := ((500 + en : Nat) : Int)) hx hb (rfl) dX5_opens_45 ?_
    refine lv_iload_n hx hb dX5_opens_46 rfl (lv_at hl 1 rfl) ?_
    refine r_iconst hx hb dX5_opens_47 ?_
    refine r_icmp_ne (tgt := 55) hx hb (⟨by decide, by decide⟩) (⟨by decide, by decide⟩) dX5_opens_48 (by decide) (fun c_2 => ?_) (fun c_2 => ?_)
    · skip
      exact absurd c_2 (by decide)
    · skip
      refine r_iconst hx hb dX5_opens_51 ?_
      refine lv_goto (tgt := 65) hx hb dX5_opens_52 (by decide) ?_
      refine r_iastV (g := sF cn en ac cu co au er (up ki en 0) (up bs en (-1))) (v := (-1)) hx hb hK hP hD hS 1 0 rfl rfl (500 + en) (rfl) (by omega) (by decide) (sF_ubs (by omega)) dX5_opens_65 (fun H locs hP hD hS => ?_)
      have hP : va_P D vwCl [(hm, .inr (5, [.ref m1, .ref m2, .ref m3, .int (iI ((pa : Nat) : Int)), .int (iI ((pb : Nat) : Int)), .ref m4, .int (iI ((cp : Nat) : Int)), .ref m5, .int (iI ((ty : Nat) : Int)), .ref m6, .int (iI ((nx : Nat) : Int)), .int (iI (fi)), .int (iI (se)), .int (iI ((le : Nat) : Int)), .ref m7, .int (iI (bp)), .ref m8])), (m1, .inl (cI, 516, .inl (rI (sF cn en ac cu co au er (up ki en 0) (up bs en (-1))))))] H := hP
      have hD : va_D A [(hm, .inr (5, [.ref m1, .ref m2, .ref m3, .int (iI ((pa : Nat) : Int)), .int (iI ((pb : Nat) : Int)), .ref m4, .int (iI ((cp : Nat) : Int)), .ref m5, .int (iI ((ty : Nat) : Int)), .ref m6, .int (iI ((nx : Nat) : Int)), .int (iI (fi)), .int (iI (se)), .int (iI ((le : Nat) : Int)), .ref m7, .int (iI (bp)), .ref m8])), (m1, .inl (cI, 516, .inl (rI (sF cn en ac cu co au er (up ki en 0) (up bs en (-1))))))] := hD
      refine lv_aload_n hx hb dX5_opens_66 rfl (lv_at hl 2 rfl) ?_
      refine va_get (D := D) (ci := 5) (v := .ref m1) (C := RX5) (T := TX5) (N := 17) hx hb hts nX5_opens_X5 hown hK hP 0 rfl rfl 0 (by decide) (hts _ kX5_opens_7) (fun _ h9 => h9) rfl dX5_opens_67 ?_
      refine r_iconst hx hb dX5_opens_70 ?_
      refine lv_dup2_11 hx hb dX5_opens_71 rfl rfl ?_
      refine r_ialdV (v := ((en : Nat) : Int)) hx hb hK hP 1 0 rfl rfl (1) (rfl) (by decide) (by decide) (rfl) dX5_opens_72 ?_
      refine r_iconst hx hb dX5_opens_73 ?_
      refine r_iadd (v := ((en + 1 : Nat) : Int)) hx hb (rfl) dX5_opens_74 ?_
      refine r_iastV (g := sF cn (en + 1) ac cu co au er (up ki en 0) (up bs en (-1))) (v := ((en + 1 : Nat) : Int)) hx hb hK hP hD hS 1 0 rfl rfl (1) (rfl) (by decide) (by decide) (sF_uen) dX5_opens_75 (fun H locs hP hD hS => ?_)
      have hP : va_P D vwCl [(hm, .inr (5, [.ref m1, .ref m2, .ref m3, .int (iI ((pa : Nat) : Int)), .int (iI ((pb : Nat) : Int)), .ref m4, .int (iI ((cp : Nat) : Int)), .ref m5, .int (iI ((ty : Nat) : Int)), .ref m6, .int (iI ((nx : Nat) : Int)), .int (iI (fi)), .int (iI (se)), .int (iI ((le : Nat) : Int)), .ref m7, .int (iI (bp)), .ref m8])), (m1, .inl (cI, 516, .inl (rI (sF cn (en + 1) ac cu co au er (up ki en 0) (up bs en (-1))))))] H := hP
      have hD : va_D A [(hm, .inr (5, [.ref m1, .ref m2, .ref m3, .int (iI ((pa : Nat) : Int)), .int (iI ((pb : Nat) : Int)), .ref m4, .int (iI ((cp : Nat) : Int)), .ref m5, .int (iI ((ty : Nat) : Int)), .ref m6, .int (iI ((nx : Nat) : Int)), .int (iI (fi)), .int (iI (se)), .int (iI ((le : Nat) : Int)), .ref m7, .int (iI (bp)), .ref m8])), (m1, .inl (cI, 516, .inl (rI (sF cn (en + 1) ac cu co au er (up ki en 0) (up bs en (-1))))))] := hD
      refine lv_aload_n hx hb dX5_opens_76 rfl (lv_at hl 2 rfl) ?_
      refine va_get (D := D) (ci := 5) (v := .ref m1) (C := RX5) (T := TX5) (N := 17) hx hb hts nX5_opens_X5 hown hK hP 0 rfl rfl 0 (by decide) (hts _ kX5_opens_7) (fun _ h9 => h9) rfl dX5_opens_77 ?_
      refine r_iconst hx hb dX5_opens_80 ?_
      refine lv_dup2_11 hx hb dX5_opens_81 rfl rfl ?_
      refine r_ialdV (v := ((ac : Nat) : Int)) hx hb hK hP 1 0 rfl rfl (2) (rfl) (by decide) (by decide) (rfl) dX5_opens_82 ?_
      refine r_iconst hx hb dX5_opens_83 ?_
      refine lv_iload hx hb dX5_opens_84 (lv_at hl 0 rfl) ?_
      refine r_shl1 hx hb (en) (rfl) (by omega) dX5_opens_86 ?_
      refine r_ior hx hb (ac) (2 ^ en) (rfl) (rfl) dX5_opens_87 ?_
      refine r_iastV (g := sF cn (en + 1) (ac ||| (2 ^ en)) cu co au er (up ki en 0) (up bs en (-1))) (v := ((ac ||| (2 ^ en) : Nat) : Int)) hx hb hK hP hD hS 1 0 rfl rfl (2) (rfl) (by decide) (by decide) (sF_uac) dX5_opens_88 (fun H locs hP hD hS => ?_)
      have hP : va_P D vwCl [(hm, .inr (5, [.ref m1, .ref m2, .ref m3, .int (iI ((pa : Nat) : Int)), .int (iI ((pb : Nat) : Int)), .ref m4, .int (iI ((cp : Nat) : Int)), .ref m5, .int (iI ((ty : Nat) : Int)), .ref m6, .int (iI ((nx : Nat) : Int)), .int (iI (fi)), .int (iI (se)), .int (iI ((le : Nat) : Int)), .ref m7, .int (iI (bp)), .ref m8])), (m1, .inl (cI, 516, .inl (rI (sF cn (en + 1) (ac ||| (2 ^ en)) cu co au er (up ki en 0) (up bs en (-1))))))] H := hP
      have hD : va_D A [(hm, .inr (5, [.ref m1, .ref m2, .ref m3, .int (iI ((pa : Nat) : Int)), .int (iI ((pb : Nat) : Int)), .ref m4, .int (iI ((cp : Nat) : Int)), .ref m5, .int (iI ((ty : Nat) : Int)), .ref m6, .int (iI ((nx : Nat) : Int)), .int (iI (fi)), .int (iI (se)), .int (iI ((le : Nat) : Int)), .ref m7, .int (iI (bp)), .ref m8])), (m1, .inl (cI, 516, .inl (rI (sF cn (en + 1) (ac ||| (2 ^ en)) cu co au er (up ki en 0) (up bs en (-1))))))] := hD
      refine lv_aload_n hx hb dX5_opens_89 rfl (lv_at hl 2 rfl) ?_
      refine va_get (D := D) (ci := 5) (v := .ref m1) (C := RX5) (T := TX5) (N := 17) hx hb hts nX5_opens_X5 hown hK hP 0 rfl rfl 0 (by decide) (hts _ kX5_opens_7) (fun _ h9 => h9) rfl dX5_opens_90 ?_
      refine r_iconst hx hb dX5_opens_93 ?_
      refine r_ialdV (v := ((cn : Nat) : Int)) hx hb hK hP 1 0 rfl rfl (0) (rfl) (by decide) (by decide) (rfl) dX5_opens_94 ?_
      refine r_iconst hx hb dX5_opens_95 ?_
      refine r_isub (v := (((cn : Nat) : Int) - 1)) hx hb (rfl) dX5_opens_96 ?_
      refine lv_istore (lv' := [(5, .int (iI (((cn : Nat) : Int) - 1))), (4, .int (iI ((en : Nat) : Int))), (3, .int (iI (-1))), (0, .ref hm), (1, .int (iI 0)), (2, .int (iI ((mo : Nat) : Int)))]) hx hb dX5_opens_97 hl (by decide) rfl (fun ls hl => ?_)
      have loop_99 : ∀ (n_99 : Nat) (b : Nat), (b - (0)) < n_99 → (b ≤ cn) → (0 ≤ b) → ∀ (H : Heap) (locs : List Loc), va_P D vwCl [(hm, .inr (5, [.ref m1, .ref m2, .ref m3, .int (iI ((pa : Nat) : Int)), .int (iI ((pb : Nat) : Int)), .ref m4, .int (iI ((cp : Nat) : Int)), .ref m5, .int (iI ((ty : Nat) : Int)), .ref m6, .int (iI ((nx : Nat) : Int)), .int (iI (fi)), .int (iI (se)), .int (iI ((le : Nat) : Int)), .ref m7, .int (iI (bp)), .ref m8])), (m1, .inl (cI, 516, .inl (rI (sF cn (en + 1) (ac ||| 2 ^ en) cu (shF co b mo cn) (shI au b mo cn) (shF er b mo cn) (up ki en (0)) (up bs en (-1))))))] H → va_D A [(hm, .inr (5, [.ref m1, .ref m2, .ref m3, .int (iI ((pa : Nat) : Int)), .int (iI ((pb : Nat) : Int)), .ref m4, .int (iI ((cp : Nat) : Int)), .ref m5, .int (iI ((ty : Nat) : Int)), .ref m6, .int (iI ((nx : Nat) : Int)), .int (iI (fi)), .int (iI (se)), .int (iI ((le : Nat) : Int)), .ref m7, .int (iI (bp)), .ref m8])), (m1, .inl (cI, 516, .inl (rI (sF cn (en + 1) (ac ||| 2 ^ en) cu (shF co b mo cn) (shI au b mo cn) (shF er b mo cn) (up ki en (0)) (up bs en (-1))))))] → va_S A s.heap H locs → ∀ (ls : Array Slot), lv_has ls 6 [(0, .ref hm), (1, .int (iI 0)), (2, .int (iI ((mo : Nat) : Int))), (3, .int (iI (-1))), (4, .int (iI ((en : Nat) : Int))), (5, .int (iI (((b : Nat) : Int) - 1)))] → W p l e ({ frames := 0, cells := 0, slots := 0, locals := 0 }) s m ([.ref hm, .int (iI 0), .int (iI ((mo : Nat) : Int))] : List Value).toArray below meth c H locs 0 0 (MQ below (QX D (S := Unit) (fun u => some (.int (iI 0))) (fun u => True) (fun u => [(hm, .inr (5, [.ref m1, .ref m2, .ref m3, .int (iI ((pa : Nat) : Int)), .int (iI ((pb : Nat) : Int)), .ref m4, .int (iI ((cp : Nat) : Int)), .ref m5, .int (iI ((ty : Nat) : Int)), .ref m6, .int (iI ((nx : Nat) : Int)), .int (iI (fi)), .int (iI (se)), .int (iI ((le : Nat) : Int)), .ref m7, .int (iI (bp)), .ref m8])), (m1, .inl (cI, 516, .inl (rI (sF (cn + mo) (en + 1) (ac ||| 2 ^ en) cu (shF co 0 mo cn) (shI au 0 mo cn) (shF er 0 mo cn) (up ki en (0)) (up bs en (-1))))))]) A) ([.ref hm, .int (iI 0), .int (iI ((mo : Nat) : Int))] : List Value).toArray s 0 0 A) (F0 m 99 ls []) := by
        intro n_99
        induction n_99 with
        | zero => intro b h_meas; exact absurd h_meas (Nat.not_lt_zero _)
        | succ n_99 ih_99 =>
          intro b h_m99 ib ib1 H locs hP hD hS ls hl
          refine lv_iload hx hb dX5_opens_99 (lv_at hl 5 rfl) ?_
          refine lv_iload_n hx hb dX5_opens_101 rfl (lv_at hl 3 rfl) ?_
          refine r_icmp_le (tgt := 179) hx hb (by omega) (⟨by decide, by decide⟩) dX5_opens_102 (by decide) (fun c_3 => ?_) (fun c_3 => ?_)
          · skip
            obtain rfl : 0 = b := by omega
            refine lv_aload_n hx hb dX5_opens_179 rfl (lv_at hl 0 rfl) ?_
            refine va_get (D := D) (ci := 5) (v := .ref m1) (C := RX5) (T := TX5) (N := 17) hx hb hts nX5_opens_X5 hown hK hP 0 rfl rfl 0 (by decide) (hts _ kX5_opens_7) (fun _ h9 => h9) rfl dX5_opens_180 ?_
            refine r_iconst hx hb dX5_opens_183 ?_
            refine lv_dup2_11 hx hb dX5_opens_184 rfl rfl ?_
            refine r_ialdV (v := ((cn : Nat) : Int)) hx hb hK hP 1 0 rfl rfl (0) (rfl) (by decide) (by decide) (rfl) dX5_opens_185 ?_
            refine lv_iload_n hx hb dX5_opens_186 rfl (lv_at hl 2 rfl) ?_
            refine r_iadd (v := ((cn + mo : Nat) : Int)) hx hb (rfl) dX5_opens_187 ?_
            refine r_iastV (g := sF (cn + mo) (en + 1) (ac ||| 2 ^ en) cu (shF co 0 mo cn) (shI au 0 mo cn) (shF er 0 mo cn) (up ki en (0)) (up bs en (-1))) (v := ((cn + mo : Nat) : Int)) hx hb hK hP hD hS 1 0 rfl rfl (0) (rfl) (by decide) (by decide) (sF_ucn) dX5_opens_188 (fun H locs hP hD hS => ?_)
            have hP : va_P D vwCl [(hm, .inr (5, [.ref m1, .ref m2, .ref m3, .int (iI ((pa : Nat) : Int)), .int (iI ((pb : Nat) : Int)), .ref m4, .int (iI ((cp : Nat) : Int)), .ref m5, .int (iI ((ty : Nat) : Int)), .ref m6, .int (iI ((nx : Nat) : Int)), .int (iI (fi)), .int (iI (se)), .int (iI ((le : Nat) : Int)), .ref m7, .int (iI (bp)), .ref m8])), (m1, .inl (cI, 516, .inl (rI (sF (cn + mo) (en + 1) (ac ||| 2 ^ en) cu (shF co 0 mo cn) (shI au 0 mo cn) (shF er 0 mo cn) (up ki en (0)) (up bs en (-1))))))] H := hP
            have hD : va_D A [(hm, .inr (5, [.ref m1, .ref m2, .ref m3, .int (iI ((pa : Nat) : Int)), .int (iI ((pb : Nat) : Int)), .ref m4, .int (iI ((cp : Nat) : Int)), .ref m5, .int (iI ((ty : Nat) : Int)), .ref m6, .int (iI ((nx : Nat) : Int)), .int (iI (fi)), .int (iI (se)), .int (iI ((le : Nat) : Int)), .ref m7, .int (iI (bp)), .ref m8])), (m1, .inl (cI, 516, .inl (rI (sF (cn + mo) (en + 1) (ac ||| 2 ^ en) cu (shF co 0 mo cn) (shI au 0 mo cn) (shF er 0 mo cn) (up ki en (0)) (up bs en (-1))))))] := hD
            refine lv_iload_n hx hb dX5_opens_189 rfl (lv_at hl 3 rfl) ?_
            refine r_iconst hx hb dX5_opens_190 ?_
            refine r_iadd (v := ((-1) + 1)) hx hb (rfl) dX5_opens_191 ?_
            exact r_iretX hx hb hr hlocks hP hD hS () (congrArg (fun z => some (Value.int (iI z))) ((by omega : ((-1) + 1) = 0).symm)) (trivial) rfl dX5_opens_192
          · skip
            have hl : lv_has ls 6 [(0, .ref hm), (1, .int (iI 0)), (2, .int (iI ((mo : Nat) : Int))), (3, .int (iI (-1))), (4, .int (iI ((en : Nat) : Int))), (5, .int (iI ((b - 1 : Nat) : Int)))] := lv_chg hl 5 5 rfl (show ((((b : Nat) : Int) - 1) : Int) = ((b - 1 : Nat) : Int) from by omega) rfl
            refine lv_aload_n hx hb dX5_opens_105 rfl (lv_at hl 0 rfl) ?_
            refine va_get (D := D) (ci := 5) (v := .ref m1) (C := RX5) (T := TX5) (N := 17) hx hb hts nX5_opens_X5 hown hK hP 0 rfl rfl 0 (by decide) (hts _ kX5_opens_7) (fun _ h9 => h9) rfl dX5_opens_106 ?_
            refine r_iconst hx hb dX5_opens_109 ?_
            refine lv_iload hx hb dX5_opens_110 (lv_at hl 5 rfl) ?_
            refine r_iadd (v := ((4 + (b - 1) : Nat) : Int)) hx hb (rfl) dX5_opens_112 ?_
            refine lv_iload_n hx hb dX5_opens_113 rfl (lv_at hl 2 rfl) ?_
            refine r_iadd (v := (((4 + (b - 1)) + mo : Nat) : Int)) hx hb (rfl) dX5_opens_114 ?_
            refine lv_aload_n hx hb dX5_opens_115 rfl (lv_at hl 0 rfl) ?_
            refine va_get (D := D) (ci := 5) (v := .ref m1) (C := RX5) (T := TX5) (N := 17) hx hb hts nX5_opens_X5 hown hK hP 0 rfl rfl 0 (by decide) (hts _ kX5_opens_7) (fun _ h9 => h9) rfl dX5_opens_116 ?_
            refine r_iconst hx hb dX5_opens_119 ?_
            refine lv_iload hx hb dX5_opens_120 (lv_at hl 5 rfl) ?_
            refine r_iadd (v := ((4 + (b - 1) : Nat) : Int)) hx hb (rfl) dX5_opens_122 ?_
            refine r_ialdV (v := (((shF co b mo cn) (b - 1) : Nat) : Int)) hx hb hK hP 1 0 rfl rfl (4 + (b - 1)) (rfl) (by omega) (by decide) (sF_co (by omega)) dX5_opens_123 ?_
            refine r_iastV (g := sF cn (en + 1) (ac ||| 2 ^ en) cu (up (shF co b mo cn) ((b - 1) + mo) ((shF co b mo cn) (b - 1))) (shI au b mo cn) (shF er b mo cn) (up ki en (0)) (up bs en (-1))) (v := (((shF co b mo cn) (b - 1) : Nat) : Int)) hx hb hK hP hD hS 1 0 rfl rfl ((4 + (b - 1)) + mo) (rfl) (by omega) (by decide) ((by rw [Nat.add_assoc]; exact sF_uco (by omega))) dX5_opens_124 (fun H locs hP hD hS => ?_)
            have hP : va_P D vwCl [(hm, .inr (5, [.ref m1, .ref m2, .ref m3, .int (iI ((pa : Nat) : Int)), .int (iI ((pb : Nat) : Int)), .ref m4, .int (iI ((cp : Nat) : Int)), .ref m5, .int (iI ((ty : Nat) : Int)), .ref m6, .int (iI ((nx : Nat) : Int)), .int (iI (fi)), .int (iI (se)), .int (iI ((le : Nat) : Int)), .ref m7, .int (iI (bp)), .ref m8])), (m1, .inl (cI, 516, .inl (rI (sF cn (en + 1) (ac ||| 2 ^ en) cu (up (shF co b mo cn) ((b - 1) + mo) ((shF co b mo cn) (b - 1))) (shI au b mo cn) (shF er b mo cn) (up ki en (0)) (up bs en (-1))))))] H := hP
            have hD : va_D A [(hm, .inr (5, [.ref m1, .ref m2, .ref m3, .int (iI ((pa : Nat) : Int)), .int (iI ((pb : Nat) : Int)), .ref m4, .int (iI ((cp : Nat) : Int)), .ref m5, .int (iI ((ty : Nat) : Int)), .ref m6, .int (iI ((nx : Nat) : Int)), .int (iI (fi)), .int (iI (se)), .int (iI ((le : Nat) : Int)), .ref m7, .int (iI (bp)), .ref m8])), (m1, .inl (cI, 516, .inl (rI (sF cn (en + 1) (ac ||| 2 ^ en) cu (up (shF co b mo cn) ((b - 1) + mo) ((shF co b mo cn) (b - 1))) (shI au b mo cn) (shF er b mo cn) (up ki en (0)) (up bs en (-1))))))] := hD
            refine lv_aload_n hx hb dX5_opens_125 rfl (lv_at hl 0 rfl) ?_
            refine va_get (D := D) (ci := 5) (v := .ref m1) (C := RX5) (T := TX5) (N := 17) hx hb hts nX5_opens_X5 hown hK hP 0 rfl rfl 0 (by decide) (hts _ kX5_opens_7) (fun _ h9 => h9) rfl dX5_opens_126 ?_
            refine r_sipush hx hb dX5_opens_129 (by decide) ?_
            refine lv_iload hx hb dX5_opens_132 (lv_at hl 5 rfl) ?_
            refine r_iadd (v := ((164 + (b - 1) : Nat) : Int)) hx hb (rfl) dX5_opens_134 ?_
            refine lv_iload_n hx hb dX5_opens_135 rfl (lv_at hl 2 rfl) ?_
            refine r_iadd (v := (((164 + (b - 1)) + mo : Nat) : Int)) hx hb (rfl) dX5_opens_136 ?_
            refine lv_aload_n hx hb dX5_opens_137 rfl (lv_at hl 0 rfl) ?_
            refine va_get (D := D) (ci := 5) (v := .ref m1) (C := RX5) (T := TX5) (N := 17) hx hb hts nX5_opens_X5 hown hK hP 0 rfl rfl 0 (by decide) (hts _ kX5_opens_7) (fun _ h9 => h9) rfl dX5_opens_138 ?_
            refine r_sipush hx hb dX5_opens_141 (by decide) ?_
            refine lv_iload hx hb dX5_opens_144 (lv_at hl 5 rfl) ?_
            refine r_iadd (v := ((164 + (b - 1) : Nat) : Int)) hx hb (rfl) dX5_opens_146 ?_
            refine r_ialdV (v := ((shI au b mo cn) (b - 1))) hx hb hK hP 1 0 rfl rfl (164 + (b - 1)) (rfl) (by omega) (by decide) (sF_au (by omega)) dX5_opens_147 ?_
            refine r_iastV (g := sF cn (en + 1) (ac ||| 2 ^ en) cu (up (shF co b mo cn) ((b - 1) + mo) ((shF co b mo cn) (b - 1))) (up (shI au b mo cn) ((b - 1) + mo) ((shI au b mo cn) (b - 1))) (shF er b mo cn) (up ki en (0)) (up bs en (-1))) (v := ((shI au b mo cn) (b - 1))) hx hb hK hP hD hS 1 0 rfl rfl ((164 + (b - 1)) + mo) (rfl) (by omega) (by decide) ((by rw [Nat.add_assoc]; exact sF_uau (by omega))) dX5_opens_148 (fun H locs hP hD hS => ?_)
            have hP : va_P D vwCl [(hm, .inr (5, [.ref m1, .ref m2, .ref m3, .int (iI ((pa : Nat) : Int)), .int (iI ((pb : Nat) : Int)), .ref m4, .int (iI ((cp : Nat) : Int)), .ref m5, .int (iI ((ty : Nat) : Int)), .ref m6, .int (iI ((nx : Nat) : Int)), .int (iI (fi)), .int (iI (se)), .int (iI ((le : Nat) : Int)), .ref m7, .int (iI (bp)), .ref m8])), (m1, .inl (cI, 516, .inl (rI (sF cn (en + 1) (ac ||| 2 ^ en) cu (up (shF co b mo cn) ((b - 1) + mo) ((shF co b mo cn) (b - 1))) (up (shI au b mo cn) ((b - 1) + mo) ((shI au b mo cn) (b - 1))) (shF er b mo cn) (up ki en (0)) (up bs en (-1))))))] H := hP
            have hD : va_D A [(hm, .inr (5, [.ref m1, .ref m2, .ref m3, .int (iI ((pa : Nat) : Int)), .int (iI ((pb : Nat) : Int)), .ref m4, .int (iI ((cp : Nat) : Int)), .ref m5, .int (iI ((ty : Nat) : Int)), .ref m6, .int (iI ((nx : Nat) : Int)), .int (iI (fi)), .int (iI (se)), .int (iI ((le : Nat) : Int)), .ref m7, .int (iI (bp)), .ref m8])), (m1, .inl (cI, 516, .inl (rI (sF cn (en + 1) (ac ||| 2 ^ en) cu (up (shF co b mo cn) ((b - 1) + mo) ((shF co b mo cn) (b - 1))) (up (shI au b mo cn) ((b - 1) + mo) ((shI au b mo cn) (b - 1))) (shF er b mo cn) (up ki en (0)) (up bs en (-1))))))] := hD
            refine lv_aload_n hx hb dX5_opens_149 rfl (lv_at hl 0 rfl) ?_
            refine va_get (D := D) (ci := 5) (v := .ref m1) (C := RX5) (T := TX5) (N := 17) hx hb hts nX5_opens_X5 hown hK hP 0 rfl rfl 0 (by decide) (hts _ kX5_opens_7) (fun _ h9 => h9) rfl dX5_opens_150 ?_
            refine r_sipush hx hb dX5_opens_153 (by decide) ?_
            refine lv_iload hx hb dX5_opens_156 (lv_at hl 5 rfl) ?_
            refine r_iadd (v := ((324 + (b - 1) : Nat) : Int)) hx hb (rfl) dX5_opens_158 ?_
            refine lv_iload_n hx hb dX5_opens_159 rfl (lv_at hl 2 rfl) ?_
            refine r_iadd (v := (((324 + (b - 1)) + mo : Nat) : Int)) hx hb (rfl) dX5_opens_160 ?_
            refine lv_aload_n hx hb dX5_opens_161 rfl (lv_at hl 0 rfl) ?_
            refine va_get (D := D) (ci := 5) (v := .ref m1) (C := RX5) (T := TX5) (N := 17) hx hb hts nX5_opens_X5 hown hK hP 0 rfl rfl 0 (by decide) (hts _ kX5_opens_7) (fun _ h9 => h9) rfl dX5_opens_162 ?_
            refine r_sipush hx hb dX5_opens_165 (by decide) ?_
            refine lv_iload hx hb dX5_opens_168 (lv_at hl 5 rfl) ?_
            refine r_iadd (v := ((324 + (b - 1) : Nat) : Int)) hx hb (rfl) dX5_opens_170 ?_
            refine r_ialdV (v := (((shF er b mo cn) (b - 1) : Nat) : Int)) hx hb hK hP 1 0 rfl rfl (324 + (b - 1)) (rfl) (by omega) (by decide) (sF_er (by omega)) dX5_opens_171 ?_
            refine r_iastV (g := sF cn (en + 1) (ac ||| 2 ^ en) cu (up (shF co b mo cn) ((b - 1) + mo) ((shF co b mo cn) (b - 1))) (up (shI au b mo cn) ((b - 1) + mo) ((shI au b mo cn) (b - 1))) (up (shF er b mo cn) ((b - 1) + mo) ((shF er b mo cn) (b - 1))) (up ki en (0)) (up bs en (-1))) (v := (((shF er b mo cn) (b - 1) : Nat) : Int)) hx hb hK hP hD hS 1 0 rfl rfl ((324 + (b - 1)) + mo) (rfl) (by omega) (by decide) ((by rw [Nat.add_assoc]; exact sF_uer (by omega))) dX5_opens_172 (fun H locs hP hD hS => ?_)
            have hP : va_P D vwCl [(hm, .inr (5, [.ref m1, .ref m2, .ref m3, .int (iI ((pa : Nat) : Int)), .int (iI ((pb : Nat) : Int)), .ref m4, .int (iI ((cp : Nat) : Int)), .ref m5, .int (iI ((ty : Nat) : Int)), .ref m6, .int (iI ((nx : Nat) : Int)), .int (iI (fi)), .int (iI (se)), .int (iI ((le : Nat) : Int)), .ref m7, .int (iI (bp)), .ref m8])), (m1, .inl (cI, 516, .inl (rI (sF cn (en + 1) (ac ||| 2 ^ en) cu (up (shF co b mo cn) ((b - 1) + mo) ((shF co b mo cn) (b - 1))) (up (shI au b mo cn) ((b - 1) + mo) ((shI au b mo cn) (b - 1))) (up (shF er b mo cn) ((b - 1) + mo) ((shF er b mo cn) (b - 1))) (up ki en (0)) (up bs en (-1))))))] H := hP
            have hD : va_D A [(hm, .inr (5, [.ref m1, .ref m2, .ref m3, .int (iI ((pa : Nat) : Int)), .int (iI ((pb : Nat) : Int)), .ref m4, .int (iI ((cp : Nat) : Int)), .ref m5, .int (iI ((ty : Nat) : Int)), .ref m6, .int (iI ((nx : Nat) : Int)), .int (iI (fi)), .int (iI (se)), .int (iI ((le : Nat) : Int)), .ref m7, .int (iI (bp)), .ref m8])), (m1, .inl (cI, 516, .inl (rI (sF cn (en + 1) (ac ||| 2 ^ en) cu (up (shF co b mo cn) ((b - 1) + mo) ((shF co b mo cn) (b - 1))) (up (shI au b mo cn) ((b - 1) + mo) ((shI au b mo cn) (b - 1))) (up (shF er b mo cn) ((b - 1) + mo) ((shF er b mo cn) (b - 1))) (up ki en (0)) (up bs en (-1))))))] := hD
            refine lv_iinc (v := iI (((b - 1 : Nat) : Int) + (-1))) (lv' := [(5, .int (iI (((b - 1 : Nat) : Int) + (-1)))), (0, .ref hm), (1, .int (iI 0)), (2, .int (iI ((mo : Nat) : Int))), (3, .int (iI (-1))), (4, .int (iI ((en : Nat) : Int)))]) hx hb dX5_opens_173 hl (k := 5) rfl ((iI_add _ _).trans (ii (rfl))) (by decide) rfl (fun ls hl => ?_)
            refine lv_goto (tgt := 99) hx hb dX5_opens_176 (by decide) ?_
            have hww : ([(hm, .inr (5, [.ref m1, .ref m2, .ref m3, .int (iI ((pa : Nat) : Int)), .int (iI ((pb : Nat) : Int)), .ref m4, .int (iI ((cp : Nat) : Int)), .ref m5, .int (iI ((ty : Nat) : Int)), .ref m6, .int (iI ((nx : Nat) : Int)), .int (iI (fi)), .int (iI (se)), .int (iI ((le : Nat) : Int)), .ref m7, .int (iI (bp)), .ref m8])), (m1, .inl (cI, 516, .inl (rI (sF cn (en + 1) (ac ||| 2 ^ en) cu (up (shF co b mo cn) ((b - 1) + mo) ((shF co b mo cn) (b - 1))) (up (shI au b mo cn) ((b - 1) + mo) ((shI au b mo cn) (b - 1))) (up (shF er b mo cn) ((b - 1) + mo) ((shF er b mo cn) (b - 1))) (up ki en (0)) (up bs en (-1))))))] : va_W) = [(hm, .inr (5, [.ref m1, .ref m2, .ref m3, .int (iI ((pa : Nat) : Int)), .int (iI ((pb : Nat) : Int)), .ref m4, .int (iI ((cp : Nat) : Int)), .ref m5, .int (iI ((ty : Nat) : Int)), .ref m6, .int (iI ((nx : Nat) : Int)), .int (iI (fi)), .int (iI (se)), .int (iI ((le : Nat) : Int)), .ref m7, .int (iI (bp)), .ref m8])), (m1, .inl (cI, 516, .inl (rI (sF cn (en + 1) (ac ||| 2 ^ en) cu (shF co (b - 1) mo cn) (shI au (b - 1) mo cn) (shF er (b - 1) mo cn) (up ki en (0)) (up bs en (-1))))))] := by rw [show shF co b mo cn = shF co (b - 1 + 1) mo cn by rw [show b - 1 + 1 = b by omega], show shI au b mo cn = shI au (b - 1 + 1) mo cn by rw [show b - 1 + 1 = b by omega], show shF er b mo cn = shF er (b - 1 + 1) mo cn by rw [show b - 1 + 1 = b by omega], shF_up (by omega), shI_up (by omega), shF_up (by omega)]
            rw [hww] at hP hD
            have hl : lv_has ls 6 [(5, .int (iI ((((b - 1) : Nat) : Int) - 1))), (0, .ref hm), (1, .int (iI 0)), (2, .int (iI ((mo : Nat) : Int))), (3, .int (iI (-1))), (4, .int (iI ((en : Nat) : Int)))] := lv_chg hl 0 5 rfl (show ((((b - 1 : Nat) : Int) + (-1)) : Int) = ((((b - 1) : Nat) : Int) - 1) from by omega) rfl
            exact ih_99 (b - 1) (by omega) (by first | assumption | (omega)) (by first | assumption | (omega)) H locs hP hD hS ls (lv_sub hl [1, 2, 3, 4, 5, 0] rfl)
      have hww : ([(hm, .inr (5, [.ref m1, .ref m2, .ref m3, .int (iI ((pa : Nat) : Int)), .int (iI ((pb : Nat) : Int)), .ref m4, .int (iI ((cp : Nat) : Int)), .ref m5, .int (iI ((ty : Nat) : Int)), .ref m6, .int (iI ((nx : Nat) : Int)), .int (iI (fi)), .int (iI (se)), .int (iI ((le : Nat) : Int)), .ref m7, .int (iI (bp)), .ref m8])), (m1, .inl (cI, 516, .inl (rI (sF cn (en + 1) (ac ||| (2 ^ en)) cu co au er (up ki en 0) (up bs en (-1))))))] : va_W) = [(hm, .inr (5, [.ref m1, .ref m2, .ref m3, .int (iI ((pa : Nat) : Int)), .int (iI ((pb : Nat) : Int)), .ref m4, .int (iI ((cp : Nat) : Int)), .ref m5, .int (iI ((ty : Nat) : Int)), .ref m6, .int (iI ((nx : Nat) : Int)), .int (iI (fi)), .int (iI (se)), .int (iI ((le : Nat) : Int)), .ref m7, .int (iI (bp)), .ref m8])), (m1, .inl (cI, 516, .inl (rI (sF cn (en + 1) (ac ||| 2 ^ en) cu (shF co cn mo cn) (shI au cn mo cn) (shF er cn mo cn) (up ki en (0)) (up bs en (-1))))))] := by rw [shF_0, shI_0, shF_0]
      rw [hww] at hP hD
      exact loop_99 ((cn - (0)) + 1) cn (by omega) (by first | assumption | (omega)) (by first | assumption | (omega)) H locs hP hD hS ls (lv_sub hl [3, 4, 5, 2, 1, 0] rfl)

theorem kX5_lays_7 : Cond.fieldLink RX5 7 "PricedUndoModel" "s" "[I" ∈ wsX5_lays := by decide +kernel
theorem nX5_lays_X5 : ∀ w ∈ u_ws RX5 TX5 17, w ∈ wsX5_lays := by decide +kernel
set_option maxHeartbeats 4000000 in
set_option maxRecDepth 100000 in
theorem m_lays (l : Launch) (D : va_G) (cI cB cZ cO : ClassId) (sz : Nat) (hm : Nat) (m1 : Nat) (m2 : Nat) (m3 : Nat) (m4 : Nat) (m5 : Nat) (m6 : Nat) (m7 : Nat) (m8 : Nat) (pa : Nat) (pb : Nat) (cp : Nat) (ty : Nat) (nx : Nat) (fi : Int) (se : Int) (le : Nat) (bp : Int) (cn : Nat) (en : Nat) (ac : Nat) (cu : Nat) (co : Nat → Nat) (au : Nat → Int) (er : Nat → Nat) (ki : Nat → Nat) (bs : Nat → Int) (k : Nat) (x1 : Nat) (hk : k < 160) : Met l yX5_lays wsX5_lays ({ frames := 0, cells := 0, slots := 0, locals := 0 }) (va_Pc [.ref hm, .int (iI ((k : Nat) : Int)), .int (iI ((x1 : Nat) : Int))] (RW D cI cB cZ cO sz [(hm, .inr (5, [.ref m1, .ref m2, .ref m3, .int (iI ((pa : Nat) : Int)), .int (iI ((pb : Nat) : Int)), .ref m4, .int (iI ((cp : Nat) : Int)), .ref m5, .int (iI ((ty : Nat) : Int)), .ref m6, .int (iI ((nx : Nat) : Int)), .int (iI (fi)), .int (iI (se)), .int (iI ((le : Nat) : Int)), .ref m7, .int (iI (bp)), .ref m8])), (m1, .inl (cI, 516, .inl (rI (sF cn en ac cu co au er ki bs))))])) (QX D (S := Unit) (fun u => none) (fun u => True) (fun u => [(hm, .inr (5, [.ref m1, .ref m2, .ref m3, .int (iI ((pa : Nat) : Int)), .int (iI ((pb : Nat) : Int)), .ref m4, .int (iI ((cp : Nat) : Int)), .ref m5, .int (iI ((ty : Nat) : Int)), .ref m6, .int (iI ((nx : Nat) : Int)), .int (iI (fi)), .int (iI (se)), .int (iI ((le : Nat) : Int)), .ref m7, .int (iI (bp)), .ref m8])), (m1, .inl (cI, 516, .inl (rI (sF cn en ac cu (up co k (x1)) (up au k (((en : Nat) : Int) - 1)) (up er k (0)) ki bs))))]) (va_A [(hm, .inr (5, [.ref m1, .ref m2, .ref m3, .int (iI ((pa : Nat) : Int)), .int (iI ((pb : Nat) : Int)), .ref m4, .int (iI ((cp : Nat) : Int)), .ref m5, .int (iI ((ty : Nat) : Int)), .ref m6, .int (iI ((nx : Nat) : Int)), .int (iI (fi)), .int (iI (se)), .int (iI ((le : Nat) : Int)), .ref m7, .int (iI (bp)), .ref m8])), (m1, .inl (cI, 516, .inl (rI (sF cn en ac cu co au er ki bs))))] sz)) 0 0 (va_A [(hm, .inr (5, [.ref m1, .ref m2, .ref m3, .int (iI ((pa : Nat) : Int)), .int (iI ((pb : Nat) : Int)), .ref m4, .int (iI ((cp : Nat) : Int)), .ref m5, .int (iI ((ty : Nat) : Int)), .ref m6, .int (iI ((nx : Nat) : Int)), .int (iI (fi)), .int (iI (se)), .int (iI ((le : Nat) : Int)), .ref m7, .int (iI (bp)), .ref m8])), (m1, .inl (cI, 516, .inl (rI (sF cn en ac cu co au er ki bs))))] sz) := by
  refine startW (cc := cX5_lays) (maxL := 3) (ret := none) (by decide) rfl (Nat.le_of_ble_eq_true rfl) ?_
  intro p e s m below meth c S hr hlocks hE hP A hD hA hS ls hl
  have hx := S.1
  have hb := S.2.1
  have hown := S.2.2.2.1
  have hts := S.2.2.2.2
  have hK := hE.1
  have hl : lv_has ls 3 [(0, .ref hm), (1, .int (iI ((k : Nat) : Int))), (2, .int (iI ((x1 : Nat) : Int)))] := hl
  refine lv_aload_n hx hb dX5_lays_0 rfl (lv_at hl 0 rfl) ?_
  refine va_get (D := D) (ci := 5) (v := .ref m1) (C := RX5) (T := TX5) (N := 17) hx hb hts nX5_lays_X5 hown hK hP 0 rfl rfl 0 (by decide) (hts _ kX5_lays_7) (fun _ h9 => h9) rfl dX5_lays_1 ?_
  refine r_iconst hx hb dX5_lays_4 ?_
  refine lv_iload_n hx hb dX5_lays_5 rfl (lv_at hl 1 rfl) ?_
  refine r_iadd (v := ((4 + k : Nat) : Int)) hx hb (rfl) dX5_lays_6 ?_
  refine lv_iload_n hx hb dX5_lays_7 rfl (lv_at hl 2 rfl) ?_
  refine r_iastV (g := sF cn en ac cu (up co k x1) au er ki bs) (v := ((x1 : Nat) : Int)) hx hb hK hP hD hS 1 0 rfl rfl (4 + k) (rfl) (by omega) (by decide) (sF_uco (by omega)) dX5_lays_8 (fun H locs hP hD hS => ?_)
  have hP : va_P D vwCl [(hm, .inr (5, [.ref m1, .ref m2, .ref m3, .int (iI ((pa : Nat) : Int)), .int (iI ((pb : Nat) : Int)), .ref m4, .int (iI ((cp : Nat) : Int)), .ref m5, .int (iI ((ty : Nat) : Int)), .ref m6, .int (iI ((nx : Nat) : Int)), .int (iI (fi)), .int (iI (se)), .int (iI ((le : Nat) : Int)), .ref m7, .int (iI (bp)), .ref m8])), (m1, .inl (cI, 516, .inl (rI (sF cn en ac cu (up co k x1) au er ki bs))))] H := hP
  have hD : va_D A [(hm, .inr (5, [.ref m1, .ref m2, .ref m3, .int (iI ((pa : Nat) : Int)), .int (iI ((pb : Nat) : Int)), .ref m4, .int (iI ((cp : Nat) : Int)), .ref m5, .int (iI ((ty : Nat) : Int)), .ref m6, .int (iI ((nx : Nat) : Int)), .int (iI (fi)), .int (iI (se)), .int (iI ((le : Nat) : Int)), .ref m7, .int (iI (bp)), .ref m8])), (m1, .inl (cI, 516, .inl (rI (sF cn en ac cu (up co k x1) au er ki bs))))] := hD
  refine lv_aload_n hx hb dX5_lays_9 rfl (lv_at hl 0 rfl) ?_
  refine va_get (D := D) (ci := 5) (v := .ref m1) (C := RX5) (T := TX5) (N := 17) hx hb hts nX5_lays_X5 hown hK hP 0 rfl rfl 0 (by decide) (hts _ kX5_lays_7) (fun _ h9 => h9) rfl dX5_lays_10 ?_
  refine r_sipush hx hb dX5_lays_13 (by decide) ?_
  refine lv_iload_n hx hb dX5_lays_16 rfl (lv_at hl 1 rfl) ?_
  refine r_iadd (v := ((164 + k : Nat) : Int)) hx hb (rfl) dX5_lays_17 ?_
  refine lv_aload_n hx hb dX5_lays_18 rfl (lv_at hl 0 rfl) ?_
  refine va_get (D := D) (ci := 5) (v := .ref m1) (C := RX5) (T := TX5) (N := 17) hx hb hts nX5_lays_X5 hown hK hP 0 rfl rfl 0 (by decide) (hts _ kX5_lays_7) (fun _ h9 => h9) rfl dX5_lays_19 ?_
  refine r_iconst hx hb dX5_lays_22 ?_
  refine r_ialdV (v := ((en : Nat) : Int)) hx hb hK hP 1 0 rfl rfl (1) (rfl) (by decide) (by decide) (rfl) dX5_lays_23 ?_
  refine r_iconst hx hb dX5_lays_24 ?_
  refine r_isub (v := (((en : Nat) : Int) - 1)) hx hb (rfl) dX5_lays_25 ?_
  refine r_iastV (g := sF cn en ac cu (up co k x1) (up au k (((en : Nat) : Int) - 1)) er ki bs) (v := (((en : Nat) : Int) - 1)) hx hb hK hP hD hS 1 0 rfl rfl (164 + k) (rfl) (by omega) (by decide) (sF_uau (by omega)) dX5_lays_26 (fun H locs hP hD hS => ?_)
  have hP : va_P D vwCl [(hm, .inr (5, [.ref m1, .ref m2, .ref m3, .int (iI ((pa : Nat) : Int)), .int (iI ((pb : Nat) : Int)), .ref m4, .int (iI ((cp : Nat) : Int)), .ref m5, .int (iI ((ty : Nat) : Int)), .ref m6, .int (iI ((nx : Nat) : Int)), .int (iI (fi)), .int (iI (se)), .int (iI ((le : Nat) : Int)), .ref m7, .int (iI (bp)), .ref m8])), (m1, .inl (cI, 516, .inl (rI (sF cn en ac cu (up co k x1) (up au k (((en : Nat) : Int) - 1)) er ki bs))))] H := hP
  have hD : va_D A [(hm, .inr (5, [.ref m1, .ref m2, .ref m3, .int (iI ((pa : Nat) : Int)), .int (iI ((pb : Nat) : Int)), .ref m4, .int (iI ((cp : Nat) : Int)), .ref m5, .int (iI ((ty : Nat) : Int)), .ref m6, .int (iI ((nx : Nat) : Int)), .int (iI (fi)), .int (iI (se)), .int (iI ((le : Nat) : Int)), .ref m7, .int (iI (bp)), .ref m8])), (m1, .inl (cI, 516, .inl (rI (sF cn en ac cu (up co k x1) (up au k (((en : Nat) : Int) - 1)) er ki bs))))] := hD
  refine lv_aload_n hx hb dX5_lays_27 rfl (lv_at hl 0 rfl) ?_
  refine va_get (D := D) (ci := 5) (v := .ref m1) (C := RX5) (T := TX5) (N := 17) hx hb hts nX5_lays_X5 hown hK hP 0 rfl rfl 0 (by decide) (hts _ kX5_lays_7) (fun _ h9 => h9) rfl dX5_lays_28 ?_
  refine r_sipush hx hb dX5_lays_31 (by decide) ?_
  refine lv_iload_n hx hb dX5_lays_34 rfl (lv_at hl 1 rfl) ?_
  refine r_iadd (v := ((324 + k : Nat) : Int)) hx hb (rfl) dX5_lays_35 ?_
  refine r_iconst hx hb dX5_lays_36 ?_
  refine r_iastV (g := sF cn en ac cu (up co k x1) (up au k (((en : Nat) : Int) - 1)) (up er k 0) ki bs) (v := ((0 : Nat) : Int)) hx hb hK hP hD hS 1 0 rfl rfl (324 + k) (rfl) (by omega) (by decide) (sF_uer (by omega)) dX5_lays_37 (fun H locs hP hD hS => ?_)
  have hP : va_P D vwCl [(hm, .inr (5, [.ref m1, .ref m2, .ref m3, .int (iI ((pa : Nat) : Int)), .int (iI ((pb : Nat) : Int)), .ref m4, .int (iI ((cp : Nat) : Int)), .ref m5, .int (iI ((ty : Nat) : Int)), .ref m6, .int (iI ((nx : Nat) : Int)), .int (iI (fi)), .int (iI (se)), .int (iI ((le : Nat) : Int)), .ref m7, .int (iI (bp)), .ref m8])), (m1, .inl (cI, 516, .inl (rI (sF cn en ac cu (up co k x1) (up au k (((en : Nat) : Int) - 1)) (up er k 0) ki bs))))] H := hP
  have hD : va_D A [(hm, .inr (5, [.ref m1, .ref m2, .ref m3, .int (iI ((pa : Nat) : Int)), .int (iI ((pb : Nat) : Int)), .ref m4, .int (iI ((cp : Nat) : Int)), .ref m5, .int (iI ((ty : Nat) : Int)), .ref m6, .int (iI ((nx : Nat) : Int)), .int (iI (fi)), .int (iI (se)), .int (iI ((le : Nat) : Int)), .ref m7, .int (iI (bp)), .ref m8])), (m1, .inl (cI, 516, .inl (rI (sF cn en ac cu (up co k x1) (up au k (((en : Nat) : Int) - 1)) (up er k 0) ki bs))))] := hD
  exact r_vretX hx hb hr hlocks hP hD hS () rfl (trivial) (by first | with_reducible rfl | simp) dX5_lays_38

set_option maxHeartbeats 4000000 in
set_option maxRecDepth 100000 in
theorem m_insert_bad (l : Launch) (D : va_G) (cI cB cZ cO : ClassId) (hm : Nat) (m1 : Nat) (m2 : Nat) (m3 : Nat) (m4 : Nat) (m5 : Nat) (m6 : Nat) (m7 : Nat) (m8 : Nat) (pa : Nat) (pb : Nat) (cp : Nat) (ty : Nat) (nx : Nat) (fi : Int) (se : Int) (le : Nat) (bp : Int) (cn : Nat) (en : Nat) (ac : Nat) (cu : Nat) (co : Nat → Nat) (au : Nat → Int) (er : Nat → Nat) (ki : Nat → Nat) (bs : Nat → Int) (x : Int) (hcn : cn ≤ 160) (hac : ac < 65536) (hau : ∀ k, -1 ≤ au k ∧ au k < 16) (her : ∀ k, er k < 65536) (hen : en ≤ 16) (hcp : cp ≤ 60) (rx : rg x) (hbad : ¬ (0 ≤ x ∧ x ≤ ((cnt (visb (omF au) er ac) cn : Nat) : Int))) : Met l yX5_insert wsX5_insert ({ frames := 3, cells := 0, slots := 0, locals := 66 }) (va_Pc [.ref hm, .int (iI (x))] (RO D cI cB cZ cO [(hm, .inr (5, [.ref m1, .ref m2, .ref m3, .int (iI ((pa : Nat) : Int)), .int (iI ((pb : Nat) : Int)), .ref m4, .int (iI ((cp : Nat) : Int)), .ref m5, .int (iI ((ty : Nat) : Int)), .ref m6, .int (iI ((nx : Nat) : Int)), .int (iI (fi)), .int (iI (se)), .int (iI ((le : Nat) : Int)), .ref m7, .int (iI (bp)), .ref m8])), (m1, .inl (cI, 516, .inl (rI (sF cn en ac cu co au er ki bs))))])) (QO (-1)) 0 0 (fun _ => False) := by
  refine startO (cc := cX5_insert) (maxL := 4) (ret := (some .int)) (by decide) rfl (Nat.le_of_ble_eq_true rfl) ?_
  intro p e s m below meth c S hr hlocks hE hP ls hl
  have hx := S.1
  have hb := S.2.1
  have hown := S.2.2.2.1
  have hts := S.2.2.2.2
  have hK := hE.1
  have hl : lv_has ls 4 [(0, .ref hm), (1, .int (iI (x)))] := hl
  have hcl := cnt_le (visb (omF au) er ac) cn
  refine lv_iload_n hx hb dX5_insert_0 rfl (lv_at hl 1 rfl) ?_
  refine r_iconst hx hb dX5_insert_1 ?_
  refine lv_aload_n hx hb dX5_insert_2 rfl (lv_at hl 0 rfl) ?_
  refine callVO (n := 0) (As := []) (rest := [.int (iI 0), .int (iI (x))]) (wc := [(hm, .inr (5, [.ref m1, .ref m2, .ref m3, .int (iI ((pa : Nat) : Int)), .int (iI ((pb : Nat) : Int)), .ref m4, .int (iI ((cp : Nat) : Int)), .ref m5, .int (iI ((ty : Nat) : Int)), .ref m6, .int (iI ((nx : Nat) : Int)), .int (iI (fi)), .int (iI (se)), .int (iI ((le : Nat) : Int)), .ref m7, .int (iI (bp)), .ref m8])), (m1, .inl (cI, 516, .inl (rI (sF cn en ac cu co au er ki bs))))]) S (m_length l D cI cB cZ cO hm m1 m2 m3 m4 m5 m6 m7 m8 pa pb cp ty nx fi se le bp cn en ac cu co au er ki bs (by first | assumption | (omega)) (by first | assumption | (omega)) (by first | assumption | (omega)) (by first | assumption | (omega))) gX5_insert_X5_length rfl ⟨rfl, rfl⟩ (by decide +kernel) ⟨Nat.le_of_ble_eq_true rfl, Nat.le_of_ble_eq_true rfl⟩ hE hP [0, 1] rfl 5 0 rfl rfl rfl hl.1 rfl (Nat.le_of_ble_eq_true rfl) dX5_insert_3 ⟨Nat.le_of_ble_eq_true rfl, Nat.le_of_ble_eq_true rfl⟩ ?_
  rw [show (0 : Int) = (0) from by omega]
  refine callSO (n := 3) (As := [.int (iI (x)), .int (iI (0)), .int (iI ((cnt (visb (omF au) er ac) cn : Nat) : Int))]) (rest := []) (wc := []) S (m_in l D cI cB cZ cO x 0 (((cnt (visb (omF au) er ac) cn : Nat) : Int)) (by first | assumption | (omega)) (by first | assumption | (omega)) (by first | assumption | (omega))) gX5_insert_X5_in rfl ⟨rfl, rfl⟩ (by decide +kernel) ⟨Nat.le_of_ble_eq_true rfl, Nat.le_of_ble_eq_true rfl⟩ hE hP [] rfl rfl hl.1 rfl (Nat.le_of_ble_eq_true rfl) dX5_insert_6 ⟨Nat.le_of_ble_eq_true rfl, Nat.le_of_ble_eq_true rfl⟩ ?_
  refine r_ifb_ne (tgt := 14) hx hb dX5_insert_9 (by decide) (fun c_1 => ?_) (fun c_1 => ?_)
  · skip
    exfalso; exact hbad (by assumption)
  · skip
    refine r_iconst hx hb dX5_insert_12 ?_
    exact r_iretO hx hb hr hlocks (rfl) dX5_insert_13

theorem kX5_insert_79 : Cond.fieldLink RX5 79 "PricedUndoModel" "clipped" "I" ∈ wsX5_insert := by decide +kernel
theorem nX5_insert_X5 : ∀ w ∈ u_ws RX5 TX5 17, w ∈ wsX5_insert := by decide +kernel
set_option maxHeartbeats 4000000 in
set_option maxRecDepth 100000 in
theorem m_insert_st (l : Launch) (D : va_G) (cI cB cZ cO : ClassId) (hm : Nat) (m1 : Nat) (m2 : Nat) (m3 : Nat) (m4 : Nat) (m5 : Nat) (m6 : Nat) (m7 : Nat) (m8 : Nat) (pa : Nat) (pb : Nat) (cp : Nat) (ty : Nat) (nx : Nat) (fi : Int) (se : Int) (le : Nat) (bp : Int) (cn : Nat) (en : Nat) (ac : Nat) (cu : Nat) (co : Nat → Nat) (au : Nat → Int) (er : Nat → Nat) (ki : Nat → Nat) (bs : Nat → Int) (x : Int) (hcn : cn ≤ 160) (hac : ac < 65536) (hau : ∀ k, -1 ≤ au k ∧ au k < 16) (her : ∀ k, er k < 65536) (hen : en ≤ 16) (hcp : cp ≤ 60) (rx : rg x) (hgood : 0 ≤ x ∧ x ≤ ((cnt (visb (omF au) er ac) cn : Nat) : Int)) (hbad : cp < 1 ∨ 8 < cp) : Met l yX5_insert wsX5_insert ({ frames := 3, cells := 0, slots := 0, locals := 66 }) (va_Pc [.ref hm, .int (iI (x))] (RO D cI cB cZ cO [(hm, .inr (5, [.ref m1, .ref m2, .ref m3, .int (iI ((pa : Nat) : Int)), .int (iI ((pb : Nat) : Int)), .ref m4, .int (iI ((cp : Nat) : Int)), .ref m5, .int (iI ((ty : Nat) : Int)), .ref m6, .int (iI ((nx : Nat) : Int)), .int (iI (fi)), .int (iI (se)), .int (iI ((le : Nat) : Int)), .ref m7, .int (iI (bp)), .ref m8])), (m1, .inl (cI, 516, .inl (rI (sF cn en ac cu co au er ki bs))))])) (QO (-2)) 0 0 (fun _ => False) := by
  refine startO (cc := cX5_insert) (maxL := 4) (ret := (some .int)) (by decide) rfl (Nat.le_of_ble_eq_true rfl) ?_
  intro p e s m below meth c S hr hlocks hE hP ls hl
  have hx := S.1
  have hb := S.2.1
  have hown := S.2.2.2.1
  have hts := S.2.2.2.2
  have hK := hE.1
  have hl : lv_has ls 4 [(0, .ref hm), (1, .int (iI (x)))] := hl
  have hcl := cnt_le (visb (omF au) er ac) cn
  refine lv_iload_n hx hb dX5_insert_0 rfl (lv_at hl 1 rfl) ?_
  refine r_iconst hx hb dX5_insert_1 ?_
  refine lv_aload_n hx hb dX5_insert_2 rfl (lv_at hl 0 rfl) ?_
  refine callVO (n := 0) (As := []) (rest := [.int (iI 0), .int (iI (x))]) (wc := [(hm, .inr (5, [.ref m1, .ref m2, .ref m3, .int (iI ((pa : Nat) : Int)), .int (iI ((pb : Nat) : Int)), .ref m4, .int (iI ((cp : Nat) : Int)), .ref m5, .int (iI ((ty : Nat) : Int)), .ref m6, .int (iI ((nx : Nat) : Int)), .int (iI (fi)), .int (iI (se)), .int (iI ((le : Nat) : Int)), .ref m7, .int (iI (bp)), .ref m8])), (m1, .inl (cI, 516, .inl (rI (sF cn en ac cu co au er ki bs))))]) S (m_length l D cI cB cZ cO hm m1 m2 m3 m4 m5 m6 m7 m8 pa pb cp ty nx fi se le bp cn en ac cu co au er ki bs (by first | assumption | (omega)) (by first | assumption | (omega)) (by first | assumption | (omega)) (by first | assumption | (omega))) gX5_insert_X5_length rfl ⟨rfl, rfl⟩ (by decide +kernel) ⟨Nat.le_of_ble_eq_true rfl, Nat.le_of_ble_eq_true rfl⟩ hE hP [0, 1] rfl 5 0 rfl rfl rfl hl.1 rfl (Nat.le_of_ble_eq_true rfl) dX5_insert_3 ⟨Nat.le_of_ble_eq_true rfl, Nat.le_of_ble_eq_true rfl⟩ ?_
  rw [show (0 : Int) = (0) from by omega]
  refine callSO (n := 3) (As := [.int (iI (x)), .int (iI (0)), .int (iI ((cnt (visb (omF au) er ac) cn : Nat) : Int))]) (rest := []) (wc := []) S (m_in l D cI cB cZ cO x 0 (((cnt (visb (omF au) er ac) cn : Nat) : Int)) (by first | assumption | (omega)) (by first | assumption | (omega)) (by first | assumption | (omega))) gX5_insert_X5_in rfl ⟨rfl, rfl⟩ (by decide +kernel) ⟨Nat.le_of_ble_eq_true rfl, Nat.le_of_ble_eq_true rfl⟩ hE hP [] rfl rfl hl.1 rfl (Nat.le_of_ble_eq_true rfl) dX5_insert_6 ⟨Nat.le_of_ble_eq_true rfl, Nat.le_of_ble_eq_true rfl⟩ ?_
  refine r_ifb_ne (tgt := 14) hx hb dX5_insert_9 (by decide) (fun c_1 => ?_) (fun c_1 => ?_)
  · skip
    refine lv_aload_n hx hb dX5_insert_14 rfl (lv_at hl 0 rfl) ?_
    refine va_get (D := D) (ci := 5) (v := .int (iI ((cp : Nat) : Int))) (C := RX5) (T := TX5) (N := 17) hx hb hts nX5_insert_X5 hown hK hP 0 rfl rfl 6 (by decide) (hts _ kX5_insert_79) (fun _ h9 => h9) rfl dX5_insert_15 ?_
    refine r_iconst hx hb dX5_insert_18 ?_
    refine r_bipush hx hb dX5_insert_19 (by decide) ?_
    rw [show (1 : Int) = (1) from by omega]
    rw [show (8 : Int) = (8) from by omega]
    refine callSO (n := 3) (As := [.int (iI ((cp : Nat) : Int)), .int (iI (1)), .int (iI (8))]) (rest := []) (wc := []) S (m_in l D cI cB cZ cO (((cp : Nat) : Int)) 1 8 (by first | assumption | (omega)) (by first | assumption | (omega)) (by first | assumption | (omega))) gX5_insert_X5_in rfl ⟨rfl, rfl⟩ (by decide +kernel) ⟨Nat.le_of_ble_eq_true rfl, Nat.le_of_ble_eq_true rfl⟩ hE hP [] rfl rfl hl.1 rfl (Nat.le_of_ble_eq_true rfl) dX5_insert_21 ⟨Nat.le_of_ble_eq_true rfl, Nat.le_of_ble_eq_true rfl⟩ ?_
    refine r_ifb_ne (tgt := 30) hx hb dX5_insert_24 (by decide) (fun c_2 => ?_) (fun c_2 => ?_)
    · skip
      exfalso; omega
    · skip
      refine r_bipush hx hb dX5_insert_27 (by decide) ?_
      exact r_iretO hx hb hr hlocks (rfl) dX5_insert_29
  · skip
    exfalso; exact absurd hgood (by assumption)

set_option maxHeartbeats 4000000 in
set_option maxRecDepth 100000 in
theorem m_insert_full (l : Launch) (D : va_G) (cI cB cZ cO : ClassId) (hm : Nat) (m1 : Nat) (m2 : Nat) (m3 : Nat) (m4 : Nat) (m5 : Nat) (m6 : Nat) (m7 : Nat) (m8 : Nat) (pa : Nat) (pb : Nat) (cp : Nat) (ty : Nat) (nx : Nat) (fi : Int) (se : Int) (le : Nat) (bp : Int) (cn : Nat) (en : Nat) (ac : Nat) (cu : Nat) (co : Nat → Nat) (au : Nat → Int) (er : Nat → Nat) (ki : Nat → Nat) (bs : Nat → Int) (x : Int) (hcn : cn ≤ 160) (hac : ac < 65536) (hau : ∀ k, -1 ≤ au k ∧ au k < 16) (her : ∀ k, er k < 65536) (hen : en ≤ 16) (hcp : cp ≤ 60) (rx : rg x) (hgood : 0 ≤ x ∧ x ≤ ((cnt (visb (omF au) er ac) cn : Nat) : Int)) (hc : 1 ≤ cp ∧ cp ≤ 8) (hbad : ¬ (en < 16 ∧ cnt (visb (omF au) er ac) cn + cp ≤ 60 ∧ cn + cp ≤ 160)) : Met l yX5_insert wsX5_insert ({ frames := 4, cells := 0, slots := 0, locals := 87 }) (va_Pc [.ref hm, .int (iI (x))] (RO D cI cB cZ cO [(hm, .inr (5, [.ref m1, .ref m2, .ref m3, .int (iI ((pa : Nat) : Int)), .int (iI ((pb : Nat) : Int)), .ref m4, .int (iI ((cp : Nat) : Int)), .ref m5, .int (iI ((ty : Nat) : Int)), .ref m6, .int (iI ((nx : Nat) : Int)), .int (iI (fi)), .int (iI (se)), .int (iI ((le : Nat) : Int)), .ref m7, .int (iI (bp)), .ref m8])), (m1, .inl (cI, 516, .inl (rI (sF cn en ac cu co au er ki bs))))])) (QO (-3)) 0 0 (fun _ => False) := by
  refine startO (cc := cX5_insert) (maxL := 4) (ret := (some .int)) (by decide) rfl (Nat.le_of_ble_eq_true rfl) ?_
  intro p e s m below meth c S hr hlocks hE hP ls hl
  have hx := S.1
  have hb := S.2.1
  have hown := S.2.2.2.1
  have hts := S.2.2.2.2
  have hK := hE.1
  have hl : lv_has ls 4 [(0, .ref hm), (1, .int (iI (x)))] := hl
  have hcl := cnt_le (visb (omF au) er ac) cn
  refine lv_iload_n hx hb dX5_insert_0 rfl (lv_at hl 1 rfl) ?_
  refine r_iconst hx hb dX5_insert_1 ?_
  refine lv_aload_n hx hb dX5_insert_2 rfl (lv_at hl 0 rfl) ?_
  refine callVO (n := 0) (As := []) (rest := [.int (iI 0), .int (iI (x))]) (wc := [(hm, .inr (5, [.ref m1, .ref m2, .ref m3, .int (iI ((pa : Nat) : Int)), .int (iI ((pb : Nat) : Int)), .ref m4, .int (iI ((cp : Nat) : Int)), .ref m5, .int (iI ((ty : Nat) : Int)), .ref m6, .int (iI ((nx : Nat) : Int)), .int (iI (fi)), .int (iI (se)), .int (iI ((le : Nat) : Int)), .ref m7, .int (iI (bp)), .ref m8])), (m1, .inl (cI, 516, .inl (rI (sF cn en ac cu co au er ki bs))))]) S (m_length l D cI cB cZ cO hm m1 m2 m3 m4 m5 m6 m7 m8 pa pb cp ty nx fi se le bp cn en ac cu co au er ki bs (by first | assumption | (omega)) (by first | assumption | (omega)) (by first | assumption | (omega)) (by first | assumption | (omega))) gX5_insert_X5_length rfl ⟨rfl, rfl⟩ (by decide +kernel) ⟨Nat.le_of_ble_eq_true rfl, Nat.le_of_ble_eq_true rfl⟩ hE hP [0, 1] rfl 5 0 rfl rfl rfl hl.1 rfl (Nat.le_of_ble_eq_true rfl) dX5_insert_3 ⟨Nat.le_of_ble_eq_true rfl, Nat.le_of_ble_eq_true rfl⟩ ?_
  rw [show (0 : Int) = (0) from by omega]
  refine callSO (n := 3) (As := [.int (iI (x)), .int (iI (0)), .int (iI ((cnt (visb (omF au) er ac) cn : Nat) : Int))]) (rest := []) (wc := []) S (m_in l D cI cB cZ cO x 0 (((cnt (visb (omF au) er ac) cn : Nat) : Int)) (by first | assumption | (omega)) (by first | assumption | (omega)) (by first | assumption | (omega))) gX5_insert_X5_in rfl ⟨rfl, rfl⟩ (by decide +kernel) ⟨Nat.le_of_ble_eq_true rfl, Nat.le_of_ble_eq_true rfl⟩ hE hP [] rfl rfl hl.1 rfl (Nat.le_of_ble_eq_true rfl) dX5_insert_6 ⟨Nat.le_of_ble_eq_true rfl, Nat.le_of_ble_eq_true rfl⟩ ?_
  refine r_ifb_ne (tgt := 14) hx hb dX5_insert_9 (by decide) (fun c_1 => ?_) (fun c_1 => ?_)
  · skip
    refine lv_aload_n hx hb dX5_insert_14 rfl (lv_at hl 0 rfl) ?_
    refine va_get (D := D) (ci := 5) (v := .int (iI ((cp : Nat) : Int))) (C := RX5) (T := TX5) (N := 17) hx hb hts nX5_insert_X5 hown hK hP 0 rfl rfl 6 (by decide) (hts _ kX5_insert_79) (fun _ h9 => h9) rfl dX5_insert_15 ?_
    refine r_iconst hx hb dX5_insert_18 ?_
    refine r_bipush hx hb dX5_insert_19 (by decide) ?_
    rw [show (1 : Int) = (1) from by omega]
    rw [show (8 : Int) = (8) from by omega]
    refine callSO (n := 3) (As := [.int (iI ((cp : Nat) : Int)), .int (iI (1)), .int (iI (8))]) (rest := []) (wc := []) S (m_in l D cI cB cZ cO (((cp : Nat) : Int)) 1 8 (by first | assumption | (omega)) (by first | assumption | (omega)) (by first | assumption | (omega))) gX5_insert_X5_in rfl ⟨rfl, rfl⟩ (by decide +kernel) ⟨Nat.le_of_ble_eq_true rfl, Nat.le_of_ble_eq_true rfl⟩ hE hP [] rfl rfl hl.1 rfl (Nat.le_of_ble_eq_true rfl) dX5_insert_21 ⟨Nat.le_of_ble_eq_true rfl, Nat.le_of_ble_eq_true rfl⟩ ?_
    refine r_ifb_ne (tgt := 30) hx hb dX5_insert_24 (by decide) (fun c_2 => ?_) (fun c_2 => ?_)
    · skip
      refine lv_aload_n hx hb dX5_insert_30 rfl (lv_at hl 0 rfl) ?_
      refine lv_aload_n hx hb dX5_insert_31 rfl (lv_at hl 0 rfl) ?_
      refine va_get (D := D) (ci := 5) (v := .int (iI ((cp : Nat) : Int))) (C := RX5) (T := TX5) (N := 17) hx hb hts nX5_insert_X5 hown hK hP 0 rfl rfl 6 (by decide) (hts _ kX5_insert_79) (fun _ h9 => h9) rfl dX5_insert_32 ?_
      refine callVO (n := 1) (As := [.int (iI ((cp : Nat) : Int))]) (rest := []) (wc := [(hm, .inr (5, [.ref m1, .ref m2, .ref m3, .int (iI ((pa : Nat) : Int)), .int (iI ((pb : Nat) : Int)), .ref m4, .int (iI ((cp : Nat) : Int)), .ref m5, .int (iI ((ty : Nat) : Int)), .ref m6, .int (iI ((nx : Nat) : Int)), .int (iI (fi)), .int (iI (se)), .int (iI ((le : Nat) : Int)), .ref m7, .int (iI (bp)), .ref m8])), (m1, .inl (cI, 516, .inl (rI (sF cn en ac cu co au er ki bs))))]) S (m_hasRoom l D cI cB cZ cO hm m1 m2 m3 m4 m5 m6 m7 m8 pa pb cp ty nx fi se le bp cn en ac cu co au er ki bs cp (by first | assumption | (omega)) (by first | assumption | (omega)) (by first | assumption | (omega)) (by first | assumption | (omega)) (by first | assumption | (omega)) (by first | assumption | (omega))) gX5_insert_X5_hasRoom rfl ⟨rfl, rfl⟩ (by decide +kernel) ⟨Nat.le_of_ble_eq_true rfl, Nat.le_of_ble_eq_true rfl⟩ hE hP [0, 1] rfl 5 0 rfl rfl rfl hl.1 rfl (Nat.le_of_ble_eq_true rfl) dX5_insert_35 ⟨Nat.le_of_ble_eq_true rfl, Nat.le_of_ble_eq_true rfl⟩ ?_
      refine r_ifb_ne (tgt := 44) hx hb dX5_insert_38 (by decide) (fun c_3 => ?_) (fun c_3 => ?_)
      · skip
        exfalso; exact hbad (by assumption)
      · skip
        refine r_bipush hx hb dX5_insert_41 (by decide) ?_
        exact r_iretO hx hb hr hlocks (rfl) dX5_insert_43
    · skip
      exfalso; omega
  · skip
    exfalso; exact absurd hgood (by assumption)

theorem kX5_insert_7 : Cond.fieldLink RX5 7 "PricedUndoModel" "s" "[I" ∈ wsX5_insert := by decide +kernel
theorem kX5_insert_27 : Cond.fieldLink RX5 27 "PricedUndoModel" "clip" "[B" ∈ wsX5_insert := by decide +kernel
set_option maxHeartbeats 4000000 in
set_option maxRecDepth 100000 in
theorem m_insert_S (l : Launch) (D : va_G) (cI cB cZ cO : ClassId) (sz : Nat) (hm : Nat) (m1 : Nat) (m2 : Nat) (m3 : Nat) (m4 : Nat) (m5 : Nat) (m6 : Nat) (m7 : Nat) (m8 : Nat) (pa : Nat) (pb : Nat) (cp : Nat) (ty : Nat) (nx : Nat) (fi : Int) (se : Int) (le : Nat) (bp : Int) (cn : Nat) (en : Nat) (ac : Nat) (cu : Nat) (co : Nat → Nat) (au : Nat → Int) (er : Nat → Nat) (ki : Nat → Nat) (bs : Nat → Int) (cl : Nat → Nat) (g1 : Nat) (an : Nat) (hcn : cn ≤ 160) (hac : ac < 65536) (hau : ∀ k, -1 ≤ au k ∧ au k < 16) (her : ∀ k, er k < 65536) (hen : en ≤ 16) (hcp : cp ≤ 60) (hbs : ∀ k, -1 ≤ bs k ∧ bs k < 16) (hc : 1 ≤ cp ∧ cp ≤ 8) (hroom : en < 16 ∧ cnt (visb (omF au) er ac) cn + cp ≤ 60 ∧ cn + cp ≤ 160) (han : atv (visb (omF au) er ac) cn g1 = (an : Int)) (hanl : an < cn) (hg1 : g1 < cnt (visb (omF au) er ac) cn) : Met l yX5_insert wsX5_insert ({ frames := 4, cells := 0, slots := 0, locals := 87 }) (va_Pc [.ref hm, .int (iI ((g1 + 1 : Nat) : Int))] (RW D cI cB cZ cO sz [(hm, .inr (5, [.ref m1, .ref m2, .ref m3, .int (iI ((pa : Nat) : Int)), .int (iI ((pb : Nat) : Int)), .ref m4, .int (iI ((cp : Nat) : Int)), .ref m5, .int (iI ((ty : Nat) : Int)), .ref m6, .int (iI ((nx : Nat) : Int)), .int (iI (fi)), .int (iI (se)), .int (iI ((le : Nat) : Int)), .ref m7, .int (iI (bp)), .ref m8])), (m1, .inl (cI, 516, .inl (rI (sF cn en ac cu co au er ki bs)))), (m4, .inl (cB, 60, .inl (rN (cl))))])) (QX D (S := Unit) (fun u => some (.int (iI ((en : Nat) : Int)))) (fun u => True) (fun u => [(hm, .inr (5, [.ref m1, .ref m2, .ref m3, .int (iI ((pa : Nat) : Int)), .int (iI ((pb : Nat) : Int)), .ref m4, .int (iI 0), .ref m5, .int (iI ((ty : Nat) : Int)), .ref m6, .int (iI ((nx : Nat) : Int)), .int (iI (fi)), .int (iI (se)), .int (iI ((le : Nat) : Int)), .ref m7, .int (iI (bp)), .ref m8])), (m1, .inl (cI, 516, .inl (rI (sF (cn + cp) (en + 1) (ac ||| 2 ^ en) cu (inR (shF co (an + 1) cp cn) (an + 1) cl cp) (inI (shI au (an + 1) cp cn) (an + 1) (fun _ => ((en : Nat) : Int)) cp) (inR (shF er (an + 1) cp cn) (an + 1) (fun _ => 0) cp) (up ki en (0)) (up bs en (au an)))))), (m4, .inl (cB, 60, .inl (rN (cl))))]) (va_A [(hm, .inr (5, [.ref m1, .ref m2, .ref m3, .int (iI ((pa : Nat) : Int)), .int (iI ((pb : Nat) : Int)), .ref m4, .int (iI ((cp : Nat) : Int)), .ref m5, .int (iI ((ty : Nat) : Int)), .ref m6, .int (iI ((nx : Nat) : Int)), .int (iI (fi)), .int (iI (se)), .int (iI ((le : Nat) : Int)), .ref m7, .int (iI (bp)), .ref m8])), (m1, .inl (cI, 516, .inl (rI (sF cn en ac cu co au er ki bs)))), (m4, .inl (cB, 60, .inl (rN (cl))))] sz)) 0 0 (va_A [(hm, .inr (5, [.ref m1, .ref m2, .ref m3, .int (iI ((pa : Nat) : Int)), .int (iI ((pb : Nat) : Int)), .ref m4, .int (iI ((cp : Nat) : Int)), .ref m5, .int (iI ((ty : Nat) : Int)), .ref m6, .int (iI ((nx : Nat) : Int)), .int (iI (fi)), .int (iI (se)), .int (iI ((le : Nat) : Int)), .ref m7, .int (iI (bp)), .ref m8])), (m1, .inl (cI, 516, .inl (rI (sF cn en ac cu co au er ki bs)))), (m4, .inl (cB, 60, .inl (rN (cl))))] sz) := by
  refine startW (cc := cX5_insert) (maxL := 4) (ret := (some .int)) (by decide) rfl (Nat.le_of_ble_eq_true rfl) ?_
  intro p e s m below meth c S hr hlocks hE hP A hD hA hS ls hl
  have hx := S.1
  have hb := S.2.1
  have hown := S.2.2.2.1
  have hts := S.2.2.2.2
  have hK := hE.1
  have hl : lv_has ls 4 [(0, .ref hm), (1, .int (iI ((g1 + 1 : Nat) : Int)))] := hl
  have hcl := cnt_le (visb (omF au) er ac) cn
  refine lv_iload_n hx hb dX5_insert_0 rfl (lv_at hl 1 rfl) ?_
  refine r_iconst hx hb dX5_insert_1 ?_
  refine lv_aload_n hx hb dX5_insert_2 rfl (lv_at hl 0 rfl) ?_
  refine callVO (n := 0) (As := []) (rest := [.int (iI 0), .int (iI ((g1 + 1 : Nat) : Int))]) (wc := [(hm, .inr (5, [.ref m1, .ref m2, .ref m3, .int (iI ((pa : Nat) : Int)), .int (iI ((pb : Nat) : Int)), .ref m4, .int (iI ((cp : Nat) : Int)), .ref m5, .int (iI ((ty : Nat) : Int)), .ref m6, .int (iI ((nx : Nat) : Int)), .int (iI (fi)), .int (iI (se)), .int (iI ((le : Nat) : Int)), .ref m7, .int (iI (bp)), .ref m8])), (m1, .inl (cI, 516, .inl (rI (sF cn en ac cu co au er ki bs))))]) S (m_length l D cI cB cZ cO hm m1 m2 m3 m4 m5 m6 m7 m8 pa pb cp ty nx fi se le bp cn en ac cu co au er ki bs (by first | assumption | (first | omega | assumption)) (by first | assumption | (first | omega | assumption)) (by first | assumption | (first | omega | assumption)) (by first | assumption | (first | omega | assumption))) gX5_insert_X5_length rfl ⟨rfl, rfl⟩ (by decide +kernel) ⟨Nat.le_of_ble_eq_true rfl, Nat.le_of_ble_eq_true rfl⟩ hE hP [0, 1] rfl 5 0 rfl rfl rfl hl.1 rfl (Nat.le_of_ble_eq_true rfl) dX5_insert_3 ⟨Nat.le_of_ble_eq_true rfl, Nat.le_of_ble_eq_true rfl⟩ ?_
  rw [show (0 : Int) = (0) from by first | omega | (have h9 : True := trivial; omega)]
  refine callSO (n := 3) (As := [.int (iI ((g1 + 1 : Nat) : Int)), .int (iI (0)), .int (iI ((cnt (visb (omF au) er ac) cn : Nat) : Int))]) (rest := []) (wc := []) S (m_in l D cI cB cZ cO (((g1 + 1 : Nat) : Int)) 0 (((cnt (visb (omF au) er ac) cn : Nat) : Int)) (by first | assumption | (first | omega | assumption)) (by first | assumption | (first | omega | assumption)) (by first | assumption | (first | omega | assumption))) gX5_insert_X5_in rfl ⟨rfl, rfl⟩ (by decide +kernel) ⟨Nat.le_of_ble_eq_true rfl, Nat.le_of_ble_eq_true rfl⟩ hE hP [] rfl rfl hl.1 rfl (Nat.le_of_ble_eq_true rfl) dX5_insert_6 ⟨Nat.le_of_ble_eq_true rfl, Nat.le_of_ble_eq_true rfl⟩ ?_
  refine r_ifb_ne (tgt := 14) hx hb dX5_insert_9 (by decide) (fun c_1 => ?_) (fun c_1 => ?_)
  · skip
    refine lv_aload_n hx hb dX5_insert_14 rfl (lv_at hl 0 rfl) ?_
    refine va_get (D := D) (ci := 5) (v := .int (iI ((cp : Nat) : Int))) (C := RX5) (T := TX5) (N := 17) hx hb hts nX5_insert_X5 hown hK hP 0 rfl rfl 6 (by decide) (hts _ kX5_insert_79) (fun _ h9 => h9) rfl dX5_insert_15 ?_
    refine r_iconst hx hb dX5_insert_18 ?_
    refine r_bipush hx hb dX5_insert_19 (by decide) ?_
    rw [show (1 : Int) = (1) from by first | omega | (have h9 : True := trivial; omega)]
    rw [show (8 : Int) = (8) from by first | omega | (have h9 : True := trivial; omega)]
    refine callSO (n := 3) (As := [.int (iI ((cp : Nat) : Int)), .int (iI (1)), .int (iI (8))]) (rest := []) (wc := []) S (m_in l D cI cB cZ cO (((cp : Nat) : Int)) 1 8 (by first | assumption | (first | omega | assumption)) (by first | assumption | (first | omega | assumption)) (by first | assumption | (first | omega | assumption))) gX5_insert_X5_in rfl ⟨rfl, rfl⟩ (by decide +kernel) ⟨Nat.le_of_ble_eq_true rfl, Nat.le_of_ble_eq_true rfl⟩ hE hP [] rfl rfl hl.1 rfl (Nat.le_of_ble_eq_true rfl) dX5_insert_21 ⟨Nat.le_of_ble_eq_true rfl, Nat.le_of_ble_eq_true rfl⟩ ?_
    refine r_ifb_ne (tgt := 30) hx hb dX5_insert_24 (by decide) (fun c_2 => ?_) (fun c_2 => ?_)
    · skip
      refine lv_aload_n hx hb dX5_insert_30 rfl (lv_at hl 0 rfl) ?_
      refine lv_aload_n hx hb dX5_insert_31 rfl (lv_at hl 0 rfl) ?_
      refine va_get (D := D) (ci := 5) (v := .int (iI ((cp : Nat) : Int))) (C := RX5) (T := TX5) (N := 17) hx hb hts nX5_insert_X5 hown hK hP 0 rfl rfl 6 (by decide) (hts _ kX5_insert_79) (fun _ h9 => h9) rfl dX5_insert_32 ?_
      refine callVO (n := 1) (As := [.int (iI ((cp : Nat) : Int))]) (rest := []) (wc := [(hm, .inr (5, [.ref m1, .ref m2, .ref m3, .int (iI ((pa : Nat) : Int)), .int (iI ((pb : Nat) : Int)), .ref m4, .int (iI ((cp : Nat) : Int)), .ref m5, .int (iI ((ty : Nat) : Int)), .ref m6, .int (iI ((nx : Nat) : Int)), .int (iI (fi)), .int (iI (se)), .int (iI ((le : Nat) : Int)), .ref m7, .int (iI (bp)), .ref m8])), (m1, .inl (cI, 516, .inl (rI (sF cn en ac cu co au er ki bs))))]) S (m_hasRoom l D cI cB cZ cO hm m1 m2 m3 m4 m5 m6 m7 m8 pa pb cp ty nx fi se le bp cn en ac cu co au er ki bs cp (by first | assumption | (first | omega | assumption)) (by first | assumption | (first | omega | assumption)) (by first | assumption | (first | omega | assumption)) (by first | assumption | (first | omega | assumption)) (by first | assumption | (first | omega | assumption)) (by first | assumption | (first | omega | assumption))) gX5_insert_X5_hasRoom rfl ⟨rfl, rfl⟩ (by decide +kernel) ⟨Nat.le_of_ble_eq_true rfl, Nat.le_of_ble_eq_true rfl⟩ hE hP [0, 1] rfl 5 0 rfl rfl rfl hl.1 rfl (Nat.le_of_ble_eq_true rfl) dX5_insert_35 ⟨Nat.le_of_ble_eq_true rfl, Nat.le_of_ble_eq_true rfl⟩ ?_
      refine r_ifb_ne (tgt := 44) hx hb dX5_insert_38 (by decide) (fun c_3 => ?_) (fun c_3 => ?_)
      · skip
        refine lv_aload_n hx hb dX5_insert_44 rfl (lv_at hl 0 rfl) ?_
        refine lv_iload_n hx hb dX5_insert_45 rfl (lv_at hl 1 rfl) ?_
        refine lv_aload_n hx hb dX5_insert_46 rfl (lv_at hl 0 rfl) ?_
        refine va_get (D := D) (ci := 5) (v := .int (iI ((cp : Nat) : Int))) (C := RX5) (T := TX5) (N := 17) hx hb hts nX5_insert_X5 hown hK hP 0 rfl rfl 6 (by decide) (hts _ kX5_insert_79) (fun _ h9 => h9) rfl dX5_insert_47 ?_
        refine callVX (n := 2) (As := [.int (iI ((g1 + 1 : Nat) : Int)), .int (iI ((cp : Nat) : Int))]) (rest := []) (wc := [(hm, .inr (5, [.ref m1, .ref m2, .ref m3, .int (iI ((pa : Nat) : Int)), .int (iI ((pb : Nat) : Int)), .ref m4, .int (iI ((cp : Nat) : Int)), .ref m5, .int (iI ((ty : Nat) : Int)), .ref m6, .int (iI ((nx : Nat) : Int)), .int (iI (fi)), .int (iI (se)), .int (iI ((le : Nat) : Int)), .ref m7, .int (iI (bp)), .ref m8])), (m1, .inl (cI, 516, .inl (rI (sF cn en ac cu co au er ki bs))))]) (wr := [(m4, .inl (cB, 60, .inl (rN (cl))))]) (ws2 := fun u => [(hm, .inr (5, [.ref m1, .ref m2, .ref m3, .int (iI ((pa : Nat) : Int)), .int (iI ((pb : Nat) : Int)), .ref m4, .int (iI ((cp : Nat) : Int)), .ref m5, .int (iI ((ty : Nat) : Int)), .ref m6, .int (iI ((nx : Nat) : Int)), .int (iI (fi)), .int (iI (se)), .int (iI ((le : Nat) : Int)), .ref m7, .int (iI (bp)), .ref m8])), (m1, .inl (cI, 516, .inl (rI (sF (cn + cp) (en + 1) (ac ||| 2 ^ en) cu (shF co (an + 1) cp cn) (shI au (an + 1) cp cn) (shF er (an + 1) cp cn) (up ki en (0)) (up bs en (au an)))))), (m4, .inl (cB, 60, .inl (rN (cl))))]) S hE hP hD hS hA (m_opens_S l D cI cB cZ cO s.heap.size hm m1 m2 m3 m4 m5 m6 m7 m8 pa pb cp ty nx fi se le bp cn en ac cu co au er ki bs g1 an cp (by first | assumption | (first | omega | assumption)) (by first | assumption | (first | omega | assumption)) (by first | assumption | (first | omega | assumption)) (by first | assumption | (first | omega | assumption)) (by first | assumption | (first | omega | assumption)) (by first | assumption | (first | omega | assumption)) (by first | assumption | (first | omega | assumption)) (by first | assumption | (first | omega | assumption)) (by first | assumption | (first | omega | assumption)) (by first | assumption | (first | omega | assumption))) gX5_insert_X5_opens rfl ⟨rfl, rfl⟩ (by decide +kernel) ⟨Nat.le_of_ble_eq_true rfl, Nat.le_of_ble_eq_true rfl⟩ [0, 1] [2] [1, 2, 0] rfl (by decide) rfl (by decide) (by decide) (by decide) (fun u => rfl) 5 0 rfl rfl rfl hl.1 rfl (Nat.le_of_ble_eq_true rfl) dX5_insert_50 ⟨Nat.le_of_ble_eq_true rfl, Nat.le_of_ble_eq_true rfl⟩ (fun u u_4p H locs hP hD hS => ?_)
        have hP : va_P D vwCl [(hm, .inr (5, [.ref m1, .ref m2, .ref m3, .int (iI ((pa : Nat) : Int)), .int (iI ((pb : Nat) : Int)), .ref m4, .int (iI ((cp : Nat) : Int)), .ref m5, .int (iI ((ty : Nat) : Int)), .ref m6, .int (iI ((nx : Nat) : Int)), .int (iI (fi)), .int (iI (se)), .int (iI ((le : Nat) : Int)), .ref m7, .int (iI (bp)), .ref m8])), (m1, .inl (cI, 516, .inl (rI (sF (cn + cp) (en + 1) (ac ||| 2 ^ en) cu (shF co (an + 1) cp cn) (shI au (an + 1) cp cn) (shF er (an + 1) cp cn) (up ki en (0)) (up bs en (au an)))))), (m4, .inl (cB, 60, .inl (rN (cl))))] H := hP
        have hD : va_D A [(hm, .inr (5, [.ref m1, .ref m2, .ref m3, .int (iI ((pa : Nat) : Int)), .int (iI ((pb : Nat) : Int)), .ref m4, .int (iI ((cp : Nat) : Int)), .ref m5, .int (iI ((ty : Nat) : Int)), .ref m6, .int (iI ((nx : Nat) : Int)), .int (iI (fi)), .int (iI (se)), .int (iI ((le : Nat) : Int)), .ref m7, .int (iI (bp)), .ref m8])), (m1, .inl (cI, 516, .inl (rI (sF (cn + cp) (en + 1) (ac ||| 2 ^ en) cu (shF co (an + 1) cp cn) (shI au (an + 1) cp cn) (shF er (an + 1) cp cn) (up ki en (0)) (up bs en (au an)))))), (m4, .inl (cB, 60, .inl (rN (cl))))] := hD
        refine W.eq (g2 := F0 m 53 ls [.int (iI ((an + 1 : Nat) : Int))]) rfl ?_
        refine lv_istore_n (lv' := [(2, .int (iI ((an + 1 : Nat) : Int))), (0, .ref hm), (1, .int (iI ((g1 + 1 : Nat) : Int)))]) hx hb dX5_insert_53 rfl hl (by decide) rfl (fun ls hl => ?_)
        refine r_iconst hx hb dX5_insert_54 ?_
        refine lv_istore_n (lv' := [(3, .int (iI 0)), (2, .int (iI ((an + 1 : Nat) : Int))), (0, .ref hm), (1, .int (iI ((g1 + 1 : Nat) : Int)))]) hx hb dX5_insert_55 rfl hl (by decide) rfl (fun ls hl => ?_)
        have loop_56 : ∀ (n_56 : Nat) (d : Nat), (cp - d) < n_56 → (d ≤ cp) → ∀ (H : Heap) (locs : List Loc), va_P D vwCl [(hm, .inr (5, [.ref m1, .ref m2, .ref m3, .int (iI ((pa : Nat) : Int)), .int (iI ((pb : Nat) : Int)), .ref m4, .int (iI ((cp : Nat) : Int)), .ref m5, .int (iI ((ty : Nat) : Int)), .ref m6, .int (iI ((nx : Nat) : Int)), .int (iI (fi)), .int (iI (se)), .int (iI ((le : Nat) : Int)), .ref m7, .int (iI (bp)), .ref m8])), (m1, .inl (cI, 516, .inl (rI (sF (cn + cp) (en + 1) (ac ||| 2 ^ en) cu (inR (shF co (an + 1) cp cn) (an + 1) cl d) (inI (shI au (an + 1) cp cn) (an + 1) (fun _ => ((en : Nat) : Int)) d) (inR (shF er (an + 1) cp cn) (an + 1) (fun _ => 0) d) (up ki en (0)) (up bs en (au an)))))), (m4, .inl (cB, 60, .inl (rN (cl))))] H → va_D A [(hm, .inr (5, [.ref m1, .ref m2, .ref m3, .int (iI ((pa : Nat) : Int)), .int (iI ((pb : Nat) : Int)), .ref m4, .int (iI ((cp : Nat) : Int)), .ref m5, .int (iI ((ty : Nat) : Int)), .ref m6, .int (iI ((nx : Nat) : Int)), .int (iI (fi)), .int (iI (se)), .int (iI ((le : Nat) : Int)), .ref m7, .int (iI (bp)), .ref m8])), (m1, .inl (cI, 516, .inl (rI (sF (cn + cp) (en + 1) (ac ||| 2 ^ en) cu (inR (shF co (an + 1) cp cn) (an + 1) cl d) (inI (shI au (an + 1) cp cn) (an + 1) (fun _ => ((en : Nat) : Int)) d) (inR (shF er (an + 1) cp cn) (an + 1) (fun _ => 0) d) (up ki en (0)) (up bs en (au an)))))), (m4, .inl (cB, 60, .inl (rN (cl))))] → va_S A s.heap H locs → ∀ (ls : Array Slot), lv_has ls 4 [(0, .ref hm), (1, .int (iI ((g1 + 1 : Nat) : Int))), (2, .int (iI ((an + 1 : Nat) : Int))), (3, .int (iI ((d : Nat) : Int)))] → W p l e ({ frames := 4, cells := 0, slots := 0, locals := 87 }) s m ([.ref hm, .int (iI ((g1 + 1 : Nat) : Int))] : List Value).toArray below meth c H locs 0 0 (MQ below (QX D (S := Unit) (fun u => some (.int (iI ((en : Nat) : Int)))) (fun u => True) (fun u => [(hm, .inr (5, [.ref m1, .ref m2, .ref m3, .int (iI ((pa : Nat) : Int)), .int (iI ((pb : Nat) : Int)), .ref m4, .int (iI 0), .ref m5, .int (iI ((ty : Nat) : Int)), .ref m6, .int (iI ((nx : Nat) : Int)), .int (iI (fi)), .int (iI (se)), .int (iI ((le : Nat) : Int)), .ref m7, .int (iI (bp)), .ref m8])), (m1, .inl (cI, 516, .inl (rI (sF (cn + cp) (en + 1) (ac ||| 2 ^ en) cu (inR (shF co (an + 1) cp cn) (an + 1) cl cp) (inI (shI au (an + 1) cp cn) (an + 1) (fun _ => ((en : Nat) : Int)) cp) (inR (shF er (an + 1) cp cn) (an + 1) (fun _ => 0) cp) (up ki en (0)) (up bs en (au an)))))), (m4, .inl (cB, 60, .inl (rN (cl))))]) A) ([.ref hm, .int (iI ((g1 + 1 : Nat) : Int))] : List Value).toArray s 0 0 A) (F0 m 56 ls []) := by
          intro n_56
          induction n_56 with
          | zero => intro d h_meas; exact absurd h_meas (Nat.not_lt_zero _)
          | succ n_56 ih_56 =>
            intro d h_m56 id H locs hP hD hS ls hl
            refine lv_iload_n hx hb dX5_insert_56 rfl (lv_at hl 3 rfl) ?_
            refine lv_aload_n hx hb dX5_insert_57 rfl (lv_at hl 0 rfl) ?_
            refine va_get (D := D) (ci := 5) (v := .int (iI ((cp : Nat) : Int))) (C := RX5) (T := TX5) (N := 17) hx hb hts nX5_insert_X5 hown hK hP 0 rfl rfl 6 (by decide) (hts _ kX5_insert_79) (fun _ h9 => h9) rfl dX5_insert_58 ?_
            refine r_icmp_ge (tgt := 83) hx hb (by first | omega | (have h9 : True := trivial; omega)) (by first | omega | (have h9 : True := trivial; omega)) dX5_insert_61 (by decide) (fun c_5 => ?_) (fun c_5 => ?_)
            · skip
              obtain rfl : cp = d := by omega
              refine lv_aload_n hx hb dX5_insert_83 rfl (lv_at hl 0 rfl) ?_
              refine r_iconst hx hb dX5_insert_84 ?_
              refine va_put (D := D) (ci := 5) (v := .int (iI 0)) (ty := .int) (C := RX5) (T := TX5) (N := 17) hx hb hts nX5_insert_X5 tyX5 tyX5_ok nmX5 hown hK hP hD hS 0 rfl rfl 6 (by decide) (hts _ kX5_insert_79) (fun _ h9 => h9) rfl (by decide +kernel) rfl rfl (Nat.le_of_ble_eq_true rfl) dX5_insert_85 (fun H locs hP hD hS => ?_)
              have hP : va_P D vwCl [(hm, .inr (5, [.ref m1, .ref m2, .ref m3, .int (iI ((pa : Nat) : Int)), .int (iI ((pb : Nat) : Int)), .ref m4, .int (iI 0), .ref m5, .int (iI ((ty : Nat) : Int)), .ref m6, .int (iI ((nx : Nat) : Int)), .int (iI (fi)), .int (iI (se)), .int (iI ((le : Nat) : Int)), .ref m7, .int (iI (bp)), .ref m8])), (m1, .inl (cI, 516, .inl (rI (sF (cn + cp) (en + 1) (ac ||| 2 ^ en) cu (inR (shF co (an + 1) cp cn) (an + 1) cl cp) (inI (shI au (an + 1) cp cn) (an + 1) (fun _ => ((en : Nat) : Int)) cp) (inR (shF er (an + 1) cp cn) (an + 1) (fun _ => 0) cp) (up ki en (0)) (up bs en (au an)))))), (m4, .inl (cB, 60, .inl (rN (cl))))] H := hP
              have hD : va_D A [(hm, .inr (5, [.ref m1, .ref m2, .ref m3, .int (iI ((pa : Nat) : Int)), .int (iI ((pb : Nat) : Int)), .ref m4, .int (iI 0), .ref m5, .int (iI ((ty : Nat) : Int)), .ref m6, .int (iI ((nx : Nat) : Int)), .int (iI (fi)), .int (iI (se)), .int (iI ((le : Nat) : Int)), .ref m7, .int (iI (bp)), .ref m8])), (m1, .inl (cI, 516, .inl (rI (sF (cn + cp) (en + 1) (ac ||| 2 ^ en) cu (inR (shF co (an + 1) cp cn) (an + 1) cl cp) (inI (shI au (an + 1) cp cn) (an + 1) (fun _ => ((en : Nat) : Int)) cp) (inR (shF er (an + 1) cp cn) (an + 1) (fun _ => 0) cp) (up ki en (0)) (up bs en (au an)))))), (m4, .inl (cB, 60, .inl (rN (cl))))] := hD
              refine lv_aload_n hx hb dX5_insert_88 rfl (lv_at hl 0 rfl) ?_
              refine va_get (D := D) (ci := 5) (v := .ref m1) (C := RX5) (T := TX5) (N := 17) hx hb hts nX5_insert_X5 hown hK hP 0 rfl rfl 0 (by decide) (hts _ kX5_insert_7) (fun _ h9 => h9) rfl dX5_insert_89 ?_
              refine r_iconst hx hb dX5_insert_92 ?_
              refine r_ialdV (v := ((en + 1 : Nat) : Int)) hx hb hK hP 1 0 rfl rfl (1) (rfl) (by decide) (by decide) (rfl) dX5_insert_93 ?_
              refine r_iconst hx hb dX5_insert_94 ?_
              refine r_isub (v := ((en : Nat) : Int)) hx hb (by first | omega | (have h9 : True := trivial; omega)) dX5_insert_95 ?_
              exact r_iretX hx hb hr hlocks hP hD hS () (rfl) (trivial) rfl dX5_insert_96
            · skip
              refine lv_aload_n hx hb dX5_insert_64 rfl (lv_at hl 0 rfl) ?_
              refine lv_iload_n hx hb dX5_insert_65 rfl (lv_at hl 2 rfl) ?_
              refine lv_iload_n hx hb dX5_insert_66 rfl (lv_at hl 3 rfl) ?_
              refine r_iadd (v := (((an + 1) + d : Nat) : Int)) hx hb (rfl) dX5_insert_67 ?_
              refine lv_aload_n hx hb dX5_insert_68 rfl (lv_at hl 0 rfl) ?_
              refine va_get (D := D) (ci := 5) (v := .ref m4) (C := RX5) (T := TX5) (N := 17) hx hb hts nX5_insert_X5 hown hK hP 0 rfl rfl 5 (by decide) (hts _ kX5_insert_27) (fun _ h9 => h9) rfl dX5_insert_69 ?_
              refine lv_iload_n hx hb dX5_insert_72 rfl (lv_at hl 3 rfl) ?_
              refine r_baldN hx hb hK hP 2 1 rfl rfl (d) (rfl) (by first | omega | (have h9 : True := trivial; omega)) (by decide) dX5_insert_73 ?_
              refine callVX (n := 2) (As := [.int (iI (((an + 1) + d : Nat) : Int)), .int (iI ((cl d : Nat) : Int))]) (rest := []) (wc := [(hm, .inr (5, [.ref m1, .ref m2, .ref m3, .int (iI ((pa : Nat) : Int)), .int (iI ((pb : Nat) : Int)), .ref m4, .int (iI ((cp : Nat) : Int)), .ref m5, .int (iI ((ty : Nat) : Int)), .ref m6, .int (iI ((nx : Nat) : Int)), .int (iI (fi)), .int (iI (se)), .int (iI ((le : Nat) : Int)), .ref m7, .int (iI (bp)), .ref m8])), (m1, .inl (cI, 516, .inl (rI (sF ((cn + cp)) ((en + 1)) ((ac ||| 2 ^ en)) cu ((inR (shF co (an + 1) cp cn) (an + 1) cl d)) ((inI (shI au (an + 1) cp cn) (an + 1) (fun _ => ((en : Nat) : Int)) d)) ((inR (shF er (an + 1) cp cn) (an + 1) (fun _ => 0) d)) ((up ki en (0))) ((up bs en (au an)))))))]) (wr := [(m4, .inl (cB, 60, .inl (rN (cl))))]) (ws2 := fun u => [(hm, .inr (5, [.ref m1, .ref m2, .ref m3, .int (iI ((pa : Nat) : Int)), .int (iI ((pb : Nat) : Int)), .ref m4, .int (iI ((cp : Nat) : Int)), .ref m5, .int (iI ((ty : Nat) : Int)), .ref m6, .int (iI ((nx : Nat) : Int)), .int (iI (fi)), .int (iI (se)), .int (iI ((le : Nat) : Int)), .ref m7, .int (iI (bp)), .ref m8])), (m1, .inl (cI, 516, .inl (rI (sF ((cn + cp)) ((en + 1)) ((ac ||| 2 ^ en)) cu (up (inR (shF co (an + 1) cp cn) (an + 1) cl d) ((an + 1) + d) ((cl d))) (up (inI (shI au (an + 1) cp cn) (an + 1) (fun _ => ((en : Nat) : Int)) d) ((an + 1) + d) ((((en + 1) : Nat) : Int) - 1)) (up (inR (shF er (an + 1) cp cn) (an + 1) (fun _ => 0) d) ((an + 1) + d) (0)) ((up ki en (0))) ((up bs en (au an))))))), (m4, .inl (cB, 60, .inl (rN (cl))))]) S hE hP hD hS hA (m_lays l D cI cB cZ cO H.size hm m1 m2 m3 m4 m5 m6 m7 m8 pa pb cp ty nx fi se le bp (cn + cp) (en + 1) (ac ||| 2 ^ en) cu (inR (shF co (an + 1) cp cn) (an + 1) cl d) (inI (shI au (an + 1) cp cn) (an + 1) (fun _ => ((en : Nat) : Int)) d) (inR (shF er (an + 1) cp cn) (an + 1) (fun _ => 0) d) (up ki en (0)) (up bs en (au an)) ((an + 1) + d) (cl d) (by first | assumption | (first | omega | assumption))) gX5_insert_X5_lays rfl ⟨rfl, rfl⟩ (by decide +kernel) ⟨Nat.le_of_ble_eq_true rfl, Nat.le_of_ble_eq_true rfl⟩ [0, 1] [2] [1, 2, 0] rfl (by decide) rfl (by decide) (by decide) (by decide) (fun u => rfl) 5 0 rfl rfl rfl hl.1 rfl (Nat.le_of_ble_eq_true rfl) dX5_insert_74 ⟨Nat.le_of_ble_eq_true rfl, Nat.le_of_ble_eq_true rfl⟩ (fun u u_6p H locs hP hD hS => ?_)
              have hP : va_P D vwCl [(hm, .inr (5, [.ref m1, .ref m2, .ref m3, .int (iI ((pa : Nat) : Int)), .int (iI ((pb : Nat) : Int)), .ref m4, .int (iI ((cp : Nat) : Int)), .ref m5, .int (iI ((ty : Nat) : Int)), .ref m6, .int (iI ((nx : Nat) : Int)), .int (iI (fi)), .int (iI (se)), .int (iI ((le : Nat) : Int)), .ref m7, .int (iI (bp)), .ref m8])), (m1, .inl (cI, 516, .inl (rI (sF ((cn + cp)) ((en + 1)) ((ac ||| 2 ^ en)) cu (up (inR (shF co (an + 1) cp cn) (an + 1) cl d) ((an + 1) + d) ((cl d))) (up (inI (shI au (an + 1) cp cn) (an + 1) (fun _ => ((en : Nat) : Int)) d) ((an + 1) + d) ((((en + 1) : Nat) : Int) - 1)) (up (inR (shF er (an + 1) cp cn) (an + 1) (fun _ => 0) d) ((an + 1) + d) (0)) ((up ki en (0))) ((up bs en (au an))))))), (m4, .inl (cB, 60, .inl (rN (cl))))] H := hP
              have hD : va_D A [(hm, .inr (5, [.ref m1, .ref m2, .ref m3, .int (iI ((pa : Nat) : Int)), .int (iI ((pb : Nat) : Int)), .ref m4, .int (iI ((cp : Nat) : Int)), .ref m5, .int (iI ((ty : Nat) : Int)), .ref m6, .int (iI ((nx : Nat) : Int)), .int (iI (fi)), .int (iI (se)), .int (iI ((le : Nat) : Int)), .ref m7, .int (iI (bp)), .ref m8])), (m1, .inl (cI, 516, .inl (rI (sF ((cn + cp)) ((en + 1)) ((ac ||| 2 ^ en)) cu (up (inR (shF co (an + 1) cp cn) (an + 1) cl d) ((an + 1) + d) ((cl d))) (up (inI (shI au (an + 1) cp cn) (an + 1) (fun _ => ((en : Nat) : Int)) d) ((an + 1) + d) ((((en + 1) : Nat) : Int) - 1)) (up (inR (shF er (an + 1) cp cn) (an + 1) (fun _ => 0) d) ((an + 1) + d) (0)) ((up ki en (0))) ((up bs en (au an))))))), (m4, .inl (cB, 60, .inl (rN (cl))))] := hD
              refine W.eq (g2 := F0 m 77 ls []) rfl ?_
              refine lv_iinc (v := iI ((d + 1 : Nat) : Int)) (lv' := [(3, .int (iI ((d + 1 : Nat) : Int))), (0, .ref hm), (1, .int (iI ((g1 + 1 : Nat) : Int))), (2, .int (iI ((an + 1 : Nat) : Int)))]) hx hb dX5_insert_77 hl (k := 3) rfl ((iI_add _ _).trans (ii (rfl))) (by decide) rfl (fun ls hl => ?_)
              refine lv_goto (tgt := 56) hx hb dX5_insert_80 (by decide) ?_
              have hww : ([(hm, .inr (5, [.ref m1, .ref m2, .ref m3, .int (iI ((pa : Nat) : Int)), .int (iI ((pb : Nat) : Int)), .ref m4, .int (iI ((cp : Nat) : Int)), .ref m5, .int (iI ((ty : Nat) : Int)), .ref m6, .int (iI ((nx : Nat) : Int)), .int (iI (fi)), .int (iI (se)), .int (iI ((le : Nat) : Int)), .ref m7, .int (iI (bp)), .ref m8])), (m1, .inl (cI, 516, .inl (rI (sF ((cn + cp)) ((en + 1)) ((ac ||| 2 ^ en)) cu (up (inR (shF co (an + 1) cp cn) (an + 1) cl d) ((an + 1) + d) ((cl d))) (up (inI (shI au (an + 1) cp cn) (an + 1) (fun _ => ((en : Nat) : Int)) d) ((an + 1) + d) ((((en + 1) : Nat) : Int) - 1)) (up (inR (shF er (an + 1) cp cn) (an + 1) (fun _ => 0) d) ((an + 1) + d) (0)) ((up ki en (0))) ((up bs en (au an))))))), (m4, .inl (cB, 60, .inl (rN (cl))))] : va_W) = [(hm, .inr (5, [.ref m1, .ref m2, .ref m3, .int (iI ((pa : Nat) : Int)), .int (iI ((pb : Nat) : Int)), .ref m4, .int (iI ((cp : Nat) : Int)), .ref m5, .int (iI ((ty : Nat) : Int)), .ref m6, .int (iI ((nx : Nat) : Int)), .int (iI (fi)), .int (iI (se)), .int (iI ((le : Nat) : Int)), .ref m7, .int (iI (bp)), .ref m8])), (m1, .inl (cI, 516, .inl (rI (sF (cn + cp) (en + 1) (ac ||| 2 ^ en) cu (inR (shF co (an + 1) cp cn) (an + 1) cl (d + 1)) (inI (shI au (an + 1) cp cn) (an + 1) (fun _ => ((en : Nat) : Int)) (d + 1)) (inR (shF er (an + 1) cp cn) (an + 1) (fun _ => 0) (d + 1)) (up ki en (0)) (up bs en (au an)))))), (m4, .inl (cB, 60, .inl (rN (cl))))] := by rw [inR_s rfl, inI_s (g := fun _ => ((en : Nat) : Int)) (d := d) (v := ((en + 1 : Nat) : Int) - 1) (show ((en : Nat) : Int) = ((en + 1 : Nat) : Int) - 1 by omega), inR_s rfl]
              rw [hww] at hP hD
              exact ih_56 (d + 1) (by first | omega | (have h9 : True := trivial; omega)) (by first | assumption | (first | omega | (have h9 : True := trivial; omega))) H locs hP hD hS ls (lv_sub hl [1, 2, 3, 0] rfl)
        have hww : ([(hm, .inr (5, [.ref m1, .ref m2, .ref m3, .int (iI ((pa : Nat) : Int)), .int (iI ((pb : Nat) : Int)), .ref m4, .int (iI ((cp : Nat) : Int)), .ref m5, .int (iI ((ty : Nat) : Int)), .ref m6, .int (iI ((nx : Nat) : Int)), .int (iI (fi)), .int (iI (se)), .int (iI ((le : Nat) : Int)), .ref m7, .int (iI (bp)), .ref m8])), (m1, .inl (cI, 516, .inl (rI (sF (cn + cp) (en + 1) (ac ||| 2 ^ en) cu (shF co (an + 1) cp cn) (shI au (an + 1) cp cn) (shF er (an + 1) cp cn) (up ki en (0)) (up bs en (au an)))))), (m4, .inl (cB, 60, .inl (rN (cl))))] : va_W) = [(hm, .inr (5, [.ref m1, .ref m2, .ref m3, .int (iI ((pa : Nat) : Int)), .int (iI ((pb : Nat) : Int)), .ref m4, .int (iI ((cp : Nat) : Int)), .ref m5, .int (iI ((ty : Nat) : Int)), .ref m6, .int (iI ((nx : Nat) : Int)), .int (iI (fi)), .int (iI (se)), .int (iI ((le : Nat) : Int)), .ref m7, .int (iI (bp)), .ref m8])), (m1, .inl (cI, 516, .inl (rI (sF (cn + cp) (en + 1) (ac ||| 2 ^ en) cu (inR (shF co (an + 1) cp cn) (an + 1) cl 0) (inI (shI au (an + 1) cp cn) (an + 1) (fun _ => ((en : Nat) : Int)) 0) (inR (shF er (an + 1) cp cn) (an + 1) (fun _ => 0) 0) (up ki en (0)) (up bs en (au an)))))), (m4, .inl (cB, 60, .inl (rN (cl))))] := by rw [inR_0, inI_0, inR_0]
        rw [hww] at hP hD
        exact loop_56 ((cp - 0) + 1) 0 (by first | omega | (have h9 : True := trivial; omega)) (by first | assumption | (first | omega | (have h9 : True := trivial; omega))) H locs hP hD hS ls (lv_sub hl [2, 3, 1, 0] rfl)
      · skip
        exfalso; omega
    · skip
      exfalso; omega
  · skip
    exfalso; omega

set_option maxHeartbeats 4000000 in
set_option maxRecDepth 100000 in
theorem m_insert_0 (l : Launch) (D : va_G) (cI cB cZ cO : ClassId) (sz : Nat) (hm : Nat) (m1 : Nat) (m2 : Nat) (m3 : Nat) (m4 : Nat) (m5 : Nat) (m6 : Nat) (m7 : Nat) (m8 : Nat) (pa : Nat) (pb : Nat) (cp : Nat) (ty : Nat) (nx : Nat) (fi : Int) (se : Int) (le : Nat) (bp : Int) (cn : Nat) (en : Nat) (ac : Nat) (cu : Nat) (co : Nat → Nat) (au : Nat → Int) (er : Nat → Nat) (ki : Nat → Nat) (bs : Nat → Int) (cl : Nat → Nat) (hcn : cn ≤ 160) (hac : ac < 65536) (hau : ∀ k, -1 ≤ au k ∧ au k < 16) (her : ∀ k, er k < 65536) (hen : en ≤ 16) (hcp : cp ≤ 60) (hbs : ∀ k, -1 ≤ bs k ∧ bs k < 16) (hc : 1 ≤ cp ∧ cp ≤ 8) (hroom : en < 16 ∧ cnt (visb (omF au) er ac) cn + cp ≤ 60 ∧ cn + cp ≤ 160) : Met l yX5_insert wsX5_insert ({ frames := 4, cells := 0, slots := 0, locals := 87 }) (va_Pc [.ref hm, .int (iI 0)] (RW D cI cB cZ cO sz [(hm, .inr (5, [.ref m1, .ref m2, .ref m3, .int (iI ((pa : Nat) : Int)), .int (iI ((pb : Nat) : Int)), .ref m4, .int (iI ((cp : Nat) : Int)), .ref m5, .int (iI ((ty : Nat) : Int)), .ref m6, .int (iI ((nx : Nat) : Int)), .int (iI (fi)), .int (iI (se)), .int (iI ((le : Nat) : Int)), .ref m7, .int (iI (bp)), .ref m8])), (m1, .inl (cI, 516, .inl (rI (sF cn en ac cu co au er ki bs)))), (m4, .inl (cB, 60, .inl (rN (cl))))])) (QX D (S := Unit) (fun u => some (.int (iI ((en : Nat) : Int)))) (fun u => True) (fun u => [(hm, .inr (5, [.ref m1, .ref m2, .ref m3, .int (iI ((pa : Nat) : Int)), .int (iI ((pb : Nat) : Int)), .ref m4, .int (iI 0), .ref m5, .int (iI ((ty : Nat) : Int)), .ref m6, .int (iI ((nx : Nat) : Int)), .int (iI (fi)), .int (iI (se)), .int (iI ((le : Nat) : Int)), .ref m7, .int (iI (bp)), .ref m8])), (m1, .inl (cI, 516, .inl (rI (sF (cn + cp) (en + 1) (ac ||| 2 ^ en) cu (inR (shF co 0 cp cn) 0 cl cp) (inI (shI au 0 cp cn) 0 (fun _ => ((en : Nat) : Int)) cp) (inR (shF er 0 cp cn) 0 (fun _ => 0) cp) (up ki en (0)) (up bs en (-1)))))), (m4, .inl (cB, 60, .inl (rN (cl))))]) (va_A [(hm, .inr (5, [.ref m1, .ref m2, .ref m3, .int (iI ((pa : Nat) : Int)), .int (iI ((pb : Nat) : Int)), .ref m4, .int (iI ((cp : Nat) : Int)), .ref m5, .int (iI ((ty : Nat) : Int)), .ref m6, .int (iI ((nx : Nat) : Int)), .int (iI (fi)), .int (iI (se)), .int (iI ((le : Nat) : Int)), .ref m7, .int (iI (bp)), .ref m8])), (m1, .inl (cI, 516, .inl (rI (sF cn en ac cu co au er ki bs)))), (m4, .inl (cB, 60, .inl (rN (cl))))] sz)) 0 0 (va_A [(hm, .inr (5, [.ref m1, .ref m2, .ref m3, .int (iI ((pa : Nat) : Int)), .int (iI ((pb : Nat) : Int)), .ref m4, .int (iI ((cp : Nat) : Int)), .ref m5, .int (iI ((ty : Nat) : Int)), .ref m6, .int (iI ((nx : Nat) : Int)), .int (iI (fi)), .int (iI (se)), .int (iI ((le : Nat) : Int)), .ref m7, .int (iI (bp)), .ref m8])), (m1, .inl (cI, 516, .inl (rI (sF cn en ac cu co au er ki bs)))), (m4, .inl (cB, 60, .inl (rN (cl))))] sz) := by
  refine startW (cc := cX5_insert) (maxL := 4) (ret := (some .int)) (by decide) rfl (Nat.le_of_ble_eq_true rfl) ?_
  intro p e s m below meth c S hr hlocks hE hP A hD hA hS ls hl
  have hx := S.1
  have hb := S.2.1
  have hown := S.2.2.2.1
  have hts := S.2.2.2.2
  have hK := hE.1
  have hl : lv_has ls 4 [(0, .ref hm), (1, .int (iI 0))] := hl
  have hcl := cnt_le (visb (omF au) er ac) cn
  refine lv_iload_n hx hb dX5_insert_0 rfl (lv_at hl 1 rfl) ?_
  refine r_iconst hx hb dX5_insert_1 ?_
  refine lv_aload_n hx hb dX5_insert_2 rfl (lv_at hl 0 rfl) ?_
  refine callVO (n := 0) (As := []) (rest := [.int (iI 0), .int (iI 0)]) (wc := [(hm, .inr (5, [.ref m1, .ref m2, .ref m3, .int (iI ((pa : Nat) : Int)), .int (iI ((pb : Nat) : Int)), .ref m4, .int (iI ((cp : Nat) : Int)), .ref m5, .int (iI ((ty : Nat) : Int)), .ref m6, .int (iI ((nx : Nat) : Int)), .int (iI (fi)), .int (iI (se)), .int (iI ((le : Nat) : Int)), .ref m7, .int (iI (bp)), .ref m8])), (m1, .inl (cI, 516, .inl (rI (sF cn en ac cu co au er ki bs))))]) S (m_length l D cI cB cZ cO hm m1 m2 m3 m4 m5 m6 m7 m8 pa pb cp ty nx fi se le bp cn en ac cu co au er ki bs (by first | assumption | (first | omega | assumption)) (by first | assumption | (first | omega | assumption)) (by first | assumption | (first | omega | assumption)) (by first | assumption | (first | omega | assumption))) gX5_insert_X5_length rfl ⟨rfl, rfl⟩ (by decide +kernel) ⟨Nat.le_of_ble_eq_true rfl, Nat.le_of_ble_eq_true rfl⟩ hE hP [0, 1] rfl 5 0 rfl rfl rfl hl.1 rfl (Nat.le_of_ble_eq_true rfl) dX5_insert_3 ⟨Nat.le_of_ble_eq_true rfl, Nat.le_of_ble_eq_true rfl⟩ ?_
  rw [show (0 : Int) = (0) from by first | omega | (have h9 : True := trivial; omega)]
  rw [show (0 : Int) = (0) from by first | omega | (have h9 : True := trivial; omega)]
  refine callSO (n := 3) (As := [.int (iI (0)), .int (iI (0)), .int (iI ((cnt (visb (omF au) er ac) cn : Nat) : Int))]) (rest := []) (wc := []) S (m_in l D cI cB cZ cO 0 0 (((cnt (visb (omF au) er ac) cn : Nat) : Int)) (by first | assumption | (first | omega | assumption)) (by first | assumption | (first | omega | assumption)) (by first | assumption | (first | omega | assumption))) gX5_insert_X5_in rfl ⟨rfl, rfl⟩ (by decide +kernel) ⟨Nat.le_of_ble_eq_true rfl, Nat.le_of_ble_eq_true rfl⟩ hE hP [] rfl rfl hl.1 rfl (Nat.le_of_ble_eq_true rfl) dX5_insert_6 ⟨Nat.le_of_ble_eq_true rfl, Nat.le_of_ble_eq_true rfl⟩ ?_
  refine r_ifb_ne (tgt := 14) hx hb dX5_insert_9 (by decide) (fun c_1 => ?_) (fun c_1 => ?_)
  · skip
    refine lv_aload_n hx hb dX5_insert_14 rfl (lv_at hl 0 rfl) ?_
    refine va_get (D := D) (ci := 5) (v := .int (iI ((cp : Nat) : Int))) (C := RX5) (T := TX5) (N := 17) hx hb hts nX5_insert_X5 hown hK hP 0 rfl rfl 6 (by decide) (hts _ kX5_insert_79) (fun _ h9 => h9) rfl dX5_insert_15 ?_
    refine r_iconst hx hb dX5_insert_18 ?_
    refine r_bipush hx hb dX5_insert_19 (by decide) ?_
    rw [show (1 : Int) = (1) from by first | omega | (have h9 : True := trivial; omega)]
    rw [show (8 : Int) = (8) from by first | omega | (have h9 : True := trivial; omega)]
    refine callSO (n := 3) (As := [.int (iI ((cp : Nat) : Int)), .int (iI (1)), .int (iI (8))]) (rest := []) (wc := []) S (m_in l D cI cB cZ cO (((cp : Nat) : Int)) 1 8 (by first | assumption | (first | omega | assumption)) (by first | assumption | (first | omega | assumption)) (by first | assumption | (first | omega | assumption))) gX5_insert_X5_in rfl ⟨rfl, rfl⟩ (by decide +kernel) ⟨Nat.le_of_ble_eq_true rfl, Nat.le_of_ble_eq_true rfl⟩ hE hP [] rfl rfl hl.1 rfl (Nat.le_of_ble_eq_true rfl) dX5_insert_21 ⟨Nat.le_of_ble_eq_true rfl, Nat.le_of_ble_eq_true rfl⟩ ?_
    refine r_ifb_ne (tgt := 30) hx hb dX5_insert_24 (by decide) (fun c_2 => ?_) (fun c_2 => ?_)
    · skip
      refine lv_aload_n hx hb dX5_insert_30 rfl (lv_at hl 0 rfl) ?_
      refine lv_aload_n hx hb dX5_insert_31 rfl (lv_at hl 0 rfl) ?_
      refine va_get (D := D) (ci := 5) (v := .int (iI ((cp : Nat) : Int))) (C := RX5) (T := TX5) (N := 17) hx hb hts nX5_insert_X5 hown hK hP 0 rfl rfl 6 (by decide) (hts _ kX5_insert_79) (fun _ h9 => h9) rfl dX5_insert_32 ?_
      refine callVO (n := 1) (As := [.int (iI ((cp : Nat) : Int))]) (rest := []) (wc := [(hm, .inr (5, [.ref m1, .ref m2, .ref m3, .int (iI ((pa : Nat) : Int)), .int (iI ((pb : Nat) : Int)), .ref m4, .int (iI ((cp : Nat) : Int)), .ref m5, .int (iI ((ty : Nat) : Int)), .ref m6, .int (iI ((nx : Nat) : Int)), .int (iI (fi)), .int (iI (se)), .int (iI ((le : Nat) : Int)), .ref m7, .int (iI (bp)), .ref m8])), (m1, .inl (cI, 516, .inl (rI (sF cn en ac cu co au er ki bs))))]) S (m_hasRoom l D cI cB cZ cO hm m1 m2 m3 m4 m5 m6 m7 m8 pa pb cp ty nx fi se le bp cn en ac cu co au er ki bs cp (by first | assumption | (first | omega | assumption)) (by first | assumption | (first | omega | assumption)) (by first | assumption | (first | omega | assumption)) (by first | assumption | (first | omega | assumption)) (by first | assumption | (first | omega | assumption)) (by first | assumption | (first | omega | assumption))) gX5_insert_X5_hasRoom rfl ⟨rfl, rfl⟩ (by decide +kernel) ⟨Nat.le_of_ble_eq_true rfl, Nat.le_of_ble_eq_true rfl⟩ hE hP [0, 1] rfl 5 0 rfl rfl rfl hl.1 rfl (Nat.le_of_ble_eq_true rfl) dX5_insert_35 ⟨Nat.le_of_ble_eq_true rfl, Nat.le_of_ble_eq_true rfl⟩ ?_
      refine r_ifb_ne (tgt := 44) hx hb dX5_insert_38 (by decide) (fun c_3 => ?_) (fun c_3 => ?_)
      · skip
        refine lv_aload_n hx hb dX5_insert_44 rfl (lv_at hl 0 rfl) ?_
        refine lv_iload_n hx hb dX5_insert_45 rfl (lv_at hl 1 rfl) ?_
        refine lv_aload_n hx hb dX5_insert_46 rfl (lv_at hl 0 rfl) ?_
        refine va_get (D := D) (ci := 5) (v := .int (iI ((cp : Nat) : Int))) (C := RX5) (T := TX5) (N := 17) hx hb hts nX5_insert_X5 hown hK hP 0 rfl rfl 6 (by decide) (hts _ kX5_insert_79) (fun _ h9 => h9) rfl dX5_insert_47 ?_
        refine callVX (n := 2) (As := [.int (iI 0), .int (iI ((cp : Nat) : Int))]) (rest := []) (wc := [(hm, .inr (5, [.ref m1, .ref m2, .ref m3, .int (iI ((pa : Nat) : Int)), .int (iI ((pb : Nat) : Int)), .ref m4, .int (iI ((cp : Nat) : Int)), .ref m5, .int (iI ((ty : Nat) : Int)), .ref m6, .int (iI ((nx : Nat) : Int)), .int (iI (fi)), .int (iI (se)), .int (iI ((le : Nat) : Int)), .ref m7, .int (iI (bp)), .ref m8])), (m1, .inl (cI, 516, .inl (rI (sF cn en ac cu co au er ki bs))))]) (wr := [(m4, .inl (cB, 60, .inl (rN (cl))))]) (ws2 := fun u => [(hm, .inr (5, [.ref m1, .ref m2, .ref m3, .int (iI ((pa : Nat) : Int)), .int (iI ((pb : Nat) : Int)), .ref m4, .int (iI ((cp : Nat) : Int)), .ref m5, .int (iI ((ty : Nat) : Int)), .ref m6, .int (iI ((nx : Nat) : Int)), .int (iI (fi)), .int (iI (se)), .int (iI ((le : Nat) : Int)), .ref m7, .int (iI (bp)), .ref m8])), (m1, .inl (cI, 516, .inl (rI (sF (cn + cp) (en + 1) (ac ||| 2 ^ en) cu (shF co 0 cp cn) (shI au 0 cp cn) (shF er 0 cp cn) (up ki en (0)) (up bs en (-1)))))), (m4, .inl (cB, 60, .inl (rN (cl))))]) S hE hP hD hS hA (m_opens_0 l D cI cB cZ cO s.heap.size hm m1 m2 m3 m4 m5 m6 m7 m8 pa pb cp ty nx fi se le bp cn en ac cu co au er ki bs cp (by first | assumption | (first | omega | assumption)) (by first | assumption | (first | omega | assumption)) (by first | assumption | (first | omega | assumption)) (by first | assumption | (first | omega | assumption)) (by first | assumption | (first | omega | assumption)) (by first | assumption | (first | omega | assumption)) (by first | assumption | (first | omega | assumption))) gX5_insert_X5_opens rfl ⟨rfl, rfl⟩ (by decide +kernel) ⟨Nat.le_of_ble_eq_true rfl, Nat.le_of_ble_eq_true rfl⟩ [0, 1] [2] [1, 2, 0] rfl (by decide) rfl (by decide) (by decide) (by decide) (fun u => rfl) 5 0 rfl rfl rfl hl.1 rfl (Nat.le_of_ble_eq_true rfl) dX5_insert_50 ⟨Nat.le_of_ble_eq_true rfl, Nat.le_of_ble_eq_true rfl⟩ (fun u u_4p H locs hP hD hS => ?_)
        have hP : va_P D vwCl [(hm, .inr (5, [.ref m1, .ref m2, .ref m3, .int (iI ((pa : Nat) : Int)), .int (iI ((pb : Nat) : Int)), .ref m4, .int (iI ((cp : Nat) : Int)), .ref m5, .int (iI ((ty : Nat) : Int)), .ref m6, .int (iI ((nx : Nat) : Int)), .int (iI (fi)), .int (iI (se)), .int (iI ((le : Nat) : Int)), .ref m7, .int (iI (bp)), .ref m8])), (m1, .inl (cI, 516, .inl (rI (sF (cn + cp) (en + 1) (ac ||| 2 ^ en) cu (shF co 0 cp cn) (shI au 0 cp cn) (shF er 0 cp cn) (up ki en (0)) (up bs en (-1)))))), (m4, .inl (cB, 60, .inl (rN (cl))))] H := hP
        have hD : va_D A [(hm, .inr (5, [.ref m1, .ref m2, .ref m3, .int (iI ((pa : Nat) : Int)), .int (iI ((pb : Nat) : Int)), .ref m4, .int (iI ((cp : Nat) : Int)), .ref m5, .int (iI ((ty : Nat) : Int)), .ref m6, .int (iI ((nx : Nat) : Int)), .int (iI (fi)), .int (iI (se)), .int (iI ((le : Nat) : Int)), .ref m7, .int (iI (bp)), .ref m8])), (m1, .inl (cI, 516, .inl (rI (sF (cn + cp) (en + 1) (ac ||| 2 ^ en) cu (shF co 0 cp cn) (shI au 0 cp cn) (shF er 0 cp cn) (up ki en (0)) (up bs en (-1)))))), (m4, .inl (cB, 60, .inl (rN (cl))))] := hD
        refine W.eq (g2 := F0 m 53 ls [.int (iI 0)]) rfl ?_
        refine lv_istore_n (lv' := [(2, .int (iI 0)), (0, .ref hm), (1, .int (iI 0))]) hx hb dX5_insert_53 rfl hl (by decide) rfl (fun ls hl => ?_)
        refine r_iconst hx hb dX5_insert_54 ?_
        refine lv_istore_n (lv' := [(3, .int (iI 0)), (2, .int (iI 0)), (0, .ref hm), (1, .int (iI 0))]) hx hb dX5_insert_55 rfl hl (by decide) rfl (fun ls hl => ?_)
        have loop_56 : ∀ (n_56 : Nat) (d : Nat), (cp - d) < n_56 → (d ≤ cp) → ∀ (H : Heap) (locs : List Loc), va_P D vwCl [(hm, .inr (5, [.ref m1, .ref m2, .ref m3, .int (iI ((pa : Nat) : Int)), .int (iI ((pb : Nat) : Int)), .ref m4, .int (iI ((cp : Nat) : Int)), .ref m5, .int (iI ((ty : Nat) : Int)), .ref m6, .int (iI ((nx : Nat) : Int)), .int (iI (fi)), .int (iI (se)), .int (iI ((le : Nat) : Int)), .ref m7, .int (iI (bp)), .ref m8])), (m1, .inl (cI, 516, .inl (rI (sF (cn + cp) (en + 1) (ac ||| 2 ^ en) cu (inR (shF co 0 cp cn) 0 cl d) (inI (shI au 0 cp cn) 0 (fun _ => ((en : Nat) : Int)) d) (inR (shF er 0 cp cn) 0 (fun _ => 0) d) (up ki en (0)) (up bs en (-1)))))), (m4, .inl (cB, 60, .inl (rN (cl))))] H → va_D A [(hm, .inr (5, [.ref m1, .ref m2, .ref m3, .int (iI ((pa : Nat) : Int)), .int (iI ((pb : Nat) : Int)), .ref m4, .int (iI ((cp : Nat) : Int)), .ref m5, .int (iI ((ty : Nat) : Int)), .ref m6, .int (iI ((nx : Nat) : Int)), .int (iI (fi)), .int (iI (se)), .int (iI ((le : Nat) : Int)), .ref m7, .int (iI (bp)), .ref m8])), (m1, .inl (cI, 516, .inl (rI (sF (cn + cp) (en + 1) (ac ||| 2 ^ en) cu (inR (shF co 0 cp cn) 0 cl d) (inI (shI au 0 cp cn) 0 (fun _ => ((en : Nat) : Int)) d) (inR (shF er 0 cp cn) 0 (fun _ => 0) d) (up ki en (0)) (up bs en (-1)))))), (m4, .inl (cB, 60, .inl (rN (cl))))] → va_S A s.heap H locs → ∀ (ls : Array Slot), lv_has ls 4 [(0, .ref hm), (1, .int (iI 0)), (2, .int (iI 0)), (3, .int (iI ((d : Nat) : Int)))] → W p l e ({ frames := 4, cells := 0, slots := 0, locals := 87 }) s m ([.ref hm, .int (iI 0)] : List Value).toArray below meth c H locs 0 0 (MQ below (QX D (S := Unit) (fun u => some (.int (iI ((en : Nat) : Int)))) (fun u => True) (fun u => [(hm, .inr (5, [.ref m1, .ref m2, .ref m3, .int (iI ((pa : Nat) : Int)), .int (iI ((pb : Nat) : Int)), .ref m4, .int (iI 0), .ref m5, .int (iI ((ty : Nat) : Int)), .ref m6, .int (iI ((nx : Nat) : Int)), .int (iI (fi)), .int (iI (se)), .int (iI ((le : Nat) : Int)), .ref m7, .int (iI (bp)), .ref m8])), (m1, .inl (cI, 516, .inl (rI (sF (cn + cp) (en + 1) (ac ||| 2 ^ en) cu (inR (shF co 0 cp cn) 0 cl cp) (inI (shI au 0 cp cn) 0 (fun _ => ((en : Nat) : Int)) cp) (inR (shF er 0 cp cn) 0 (fun _ => 0) cp) (up ki en (0)) (up bs en (-1)))))), (m4, .inl (cB, 60, .inl (rN (cl))))]) A) ([.ref hm, .int (iI 0)] : List Value).toArray s 0 0 A) (F0 m 56 ls []) := by
          intro n_56
          induction n_56 with
          | zero => intro d h_meas; exact absurd h_meas (Nat.not_lt_zero _)
          | succ n_56 ih_56 =>
            intro d h_m56 id H locs hP hD hS ls hl
            refine lv_iload_n hx hb dX5_insert_56 rfl (lv_at hl 3 rfl) ?_
            refine lv_aload_n hx hb dX5_insert_57 rfl (lv_at hl 0 rfl) ?_
            refine va_get (D := D) (ci := 5) (v := .int (iI ((cp : Nat) : Int))) (C := RX5) (T := TX5) (N := 17) hx hb hts nX5_insert_X5 hown hK hP 0 rfl rfl 6 (by decide) (hts _ kX5_insert_79) (fun _ h9 => h9) rfl dX5_insert_58 ?_
            refine r_icmp_ge (tgt := 83) hx hb (by first | omega | (have h9 : True := trivial; omega)) (by first | omega | (have h9 : True := trivial; omega)) dX5_insert_61 (by decide) (fun c_5 => ?_) (fun c_5 => ?_)
            · skip
              obtain rfl : cp = d := by omega
              refine lv_aload_n hx hb dX5_insert_83 rfl (lv_at hl 0 rfl) ?_
              refine r_iconst hx hb dX5_insert_84 ?_
              refine va_put (D := D) (ci := 5) (v := .int (iI 0)) (ty := .int) (C := RX5) (T := TX5) (N := 17) hx hb hts nX5_insert_X5 tyX5 tyX5_ok nmX5 hown hK hP hD hS 0 rfl rfl 6 (by decide) (hts _ kX5_insert_79) (fun _ h9 => h9) rfl (by decide +kernel) rfl rfl (Nat.le_of_ble_eq_true rfl) dX5_insert_85 (fun H locs hP hD hS => ?_)
              have hP : va_P D vwCl [(hm, .inr (5, [.ref m1, .ref m2, .ref m3, .int (iI ((pa : Nat) : Int)), .int (iI ((pb : Nat) : Int)), .ref m4, .int (iI 0), .ref m5, .int (iI ((ty : Nat) : Int)), .ref m6, .int (iI ((nx : Nat) : Int)), .int (iI (fi)), .int (iI (se)), .int (iI ((le : Nat) : Int)), .ref m7, .int (iI (bp)), .ref m8])), (m1, .inl (cI, 516, .inl (rI (sF (cn + cp) (en + 1) (ac ||| 2 ^ en) cu (inR (shF co 0 cp cn) 0 cl cp) (inI (shI au 0 cp cn) 0 (fun _ => ((en : Nat) : Int)) cp) (inR (shF er 0 cp cn) 0 (fun _ => 0) cp) (up ki en (0)) (up bs en (-1)))))), (m4, .inl (cB, 60, .inl (rN (cl))))] H := hP
              have hD : va_D A [(hm, .inr (5, [.ref m1, .ref m2, .ref m3, .int (iI ((pa : Nat) : Int)), .int (iI ((pb : Nat) : Int)), .ref m4, .int (iI 0), .ref m5, .int (iI ((ty : Nat) : Int)), .ref m6, .int (iI ((nx : Nat) : Int)), .int (iI (fi)), .int (iI (se)), .int (iI ((le : Nat) : Int)), .ref m7, .int (iI (bp)), .ref m8])), (m1, .inl (cI, 516, .inl (rI (sF (cn + cp) (en + 1) (ac ||| 2 ^ en) cu (inR (shF co 0 cp cn) 0 cl cp) (inI (shI au 0 cp cn) 0 (fun _ => ((en : Nat) : Int)) cp) (inR (shF er 0 cp cn) 0 (fun _ => 0) cp) (up ki en (0)) (up bs en (-1)))))), (m4, .inl (cB, 60, .inl (rN (cl))))] := hD
              refine lv_aload_n hx hb dX5_insert_88 rfl (lv_at hl 0 rfl) ?_
              refine va_get (D := D) (ci := 5) (v := .ref m1) (C := RX5) (T := TX5) (N := 17) hx hb hts nX5_insert_X5 hown hK hP 0 rfl rfl 0 (by decide) (hts _ kX5_insert_7) (fun _ h9 => h9) rfl dX5_insert_89 ?_
              refine r_iconst hx hb dX5_insert_92 ?_
              refine r_ialdV (v := ((en + 1 : Nat) : Int)) hx hb hK hP 1 0 rfl rfl (1) (rfl) (by decide) (by decide) (rfl) dX5_insert_93 ?_
              refine r_iconst hx hb dX5_insert_94 ?_
              refine r_isub (v := ((en : Nat) : Int)) hx hb (by first | omega | (have h9 : True := trivial; omega)) dX5_insert_95 ?_
              exact r_iretX hx hb hr hlocks hP hD hS () (rfl) (trivial) rfl dX5_insert_96
            · skip
              refine lv_aload_n hx hb dX5_insert_64 rfl (lv_at hl 0 rfl) ?_
              refine lv_iload_n hx hb dX5_insert_65 rfl (lv_at hl 2 rfl) ?_
              refine lv_iload_n hx hb dX5_insert_66 rfl (lv_at hl 3 rfl) ?_
              refine r_iadd (v := ((0 + d : Nat) : Int)) hx hb (rfl) dX5_insert_67 ?_
              refine lv_aload_n hx hb dX5_insert_68 rfl (lv_at hl 0 rfl) ?_
              refine va_get (D := D) (ci := 5) (v := .ref m4) (C := RX5) (T := TX5) (N := 17) hx hb hts nX5_insert_X5 hown hK hP 0 rfl rfl 5 (by decide) (hts _ kX5_insert_27) (fun _ h9 => h9) rfl dX5_insert_69 ?_
              refine lv_iload_n hx hb dX5_insert_72 rfl (lv_at hl 3 rfl) ?_
              refine r_baldN hx hb hK hP 2 1 rfl rfl (d) (rfl) (by first | omega | (have h9 : True := trivial; omega)) (by decide) dX5_insert_73 ?_
              refine callVX (n := 2) (As := [.int (iI ((0 + d : Nat) : Int)), .int (iI ((cl d : Nat) : Int))]) (rest := []) (wc := [(hm, .inr (5, [.ref m1, .ref m2, .ref m3, .int (iI ((pa : Nat) : Int)), .int (iI ((pb : Nat) : Int)), .ref m4, .int (iI ((cp : Nat) : Int)), .ref m5, .int (iI ((ty : Nat) : Int)), .ref m6, .int (iI ((nx : Nat) : Int)), .int (iI (fi)), .int (iI (se)), .int (iI ((le : Nat) : Int)), .ref m7, .int (iI (bp)), .ref m8])), (m1, .inl (cI, 516, .inl (rI (sF ((cn + cp)) ((en + 1)) ((ac ||| 2 ^ en)) cu ((inR (shF co 0 cp cn) 0 cl d)) ((inI (shI au 0 cp cn) 0 (fun _ => ((en : Nat) : Int)) d)) ((inR (shF er 0 cp cn) 0 (fun _ => 0) d)) ((up ki en (0))) ((up bs en (-1)))))))]) (wr := [(m4, .inl (cB, 60, .inl (rN (cl))))]) (ws2 := fun u => [(hm, .inr (5, [.ref m1, .ref m2, .ref m3, .int (iI ((pa : Nat) : Int)), .int (iI ((pb : Nat) : Int)), .ref m4, .int (iI ((cp : Nat) : Int)), .ref m5, .int (iI ((ty : Nat) : Int)), .ref m6, .int (iI ((nx : Nat) : Int)), .int (iI (fi)), .int (iI (se)), .int (iI ((le : Nat) : Int)), .ref m7, .int (iI (bp)), .ref m8])), (m1, .inl (cI, 516, .inl (rI (sF ((cn + cp)) ((en + 1)) ((ac ||| 2 ^ en)) cu (up (inR (shF co 0 cp cn) 0 cl d) (0 + d) ((cl d))) (up (inI (shI au 0 cp cn) 0 (fun _ => ((en : Nat) : Int)) d) (0 + d) ((((en + 1) : Nat) : Int) - 1)) (up (inR (shF er 0 cp cn) 0 (fun _ => 0) d) (0 + d) (0)) ((up ki en (0))) ((up bs en (-1))))))), (m4, .inl (cB, 60, .inl (rN (cl))))]) S hE hP hD hS hA (m_lays l D cI cB cZ cO H.size hm m1 m2 m3 m4 m5 m6 m7 m8 pa pb cp ty nx fi se le bp (cn + cp) (en + 1) (ac ||| 2 ^ en) cu (inR (shF co 0 cp cn) 0 cl d) (inI (shI au 0 cp cn) 0 (fun _ => ((en : Nat) : Int)) d) (inR (shF er 0 cp cn) 0 (fun _ => 0) d) (up ki en (0)) (up bs en (-1)) (0 + d) (cl d) (by first | assumption | (first | omega | assumption))) gX5_insert_X5_lays rfl ⟨rfl, rfl⟩ (by decide +kernel) ⟨Nat.le_of_ble_eq_true rfl, Nat.le_of_ble_eq_true rfl⟩ [0, 1] [2] [1, 2, 0] rfl (by decide) rfl (by decide) (by decide) (by decide) (fun u => rfl) 5 0 rfl rfl rfl hl.1 rfl (Nat.le_of_ble_eq_true rfl) dX5_insert_74 ⟨Nat.le_of_ble_eq_true rfl, Nat.le_of_ble_eq_true rfl⟩ (fun u u_6p H locs hP hD hS => ?_)
              have hP : va_P D vwCl [(hm, .inr (5, [.ref m1, .ref m2, .ref m3, .int (iI ((pa : Nat) : Int)), .int (iI ((pb : Nat) : Int)), .ref m4, .int (iI ((cp : Nat) : Int)), .ref m5, .int (iI ((ty : Nat) : Int)), .ref m6, .int (iI ((nx : Nat) : Int)), .int (iI (fi)), .int (iI (se)), .int (iI ((le : Nat) : Int)), .ref m7, .int (iI (bp)), .ref m8])), (m1, .inl (cI, 516, .inl (rI (sF ((cn + cp)) ((en + 1)) ((ac ||| 2 ^ en)) cu (up (inR (shF co 0 cp cn) 0 cl d) (0 + d) ((cl d))) (up (inI (shI au 0 cp cn) 0 (fun _ => ((en : Nat) : Int)) d) (0 + d) ((((en + 1) : Nat) : Int) - 1)) (up (inR (shF er 0 cp cn) 0 (fun _ => 0) d) (0 + d) (0)) ((up ki en (0))) ((up bs en (-1))))))), (m4, .inl (cB, 60, .inl (rN (cl))))] H := hP
              have hD : va_D A [(hm, .inr (5, [.ref m1, .ref m2, .ref m3, .int (iI ((pa : Nat) : Int)), .int (iI ((pb : Nat) : Int)), .ref m4, .int (iI ((cp : Nat) : Int)), .ref m5, .int (iI ((ty : Nat) : Int)), .ref m6, .int (iI ((nx : Nat) : Int)), .int (iI (fi)), .int (iI (se)), .int (iI ((le : Nat) : Int)), .ref m7, .int (iI (bp)), .ref m8])), (m1, .inl (cI, 516, .inl (rI (sF ((cn + cp)) ((en + 1)) ((ac ||| 2 ^ en)) cu (up (inR (shF co 0 cp cn) 0 cl d) (0 + d) ((cl d))) (up (inI (shI au 0 cp cn) 0 (fun _ => ((en : Nat) : Int)) d) (0 + d) ((((en + 1) : Nat) : Int) - 1)) (up (inR (shF er 0 cp cn) 0 (fun _ => 0) d) (0 + d) (0)) ((up ki en (0))) ((up bs en (-1))))))), (m4, .inl (cB, 60, .inl (rN (cl))))] := hD
              refine W.eq (g2 := F0 m 77 ls []) rfl ?_
              refine lv_iinc (v := iI ((d + 1 : Nat) : Int)) (lv' := [(3, .int (iI ((d + 1 : Nat) : Int))), (0, .ref hm), (1, .int (iI 0)), (2, .int (iI 0))]) hx hb dX5_insert_77 hl (k := 3) rfl ((iI_add _ _).trans (ii (rfl))) (by decide) rfl (fun ls hl => ?_)
              refine lv_goto (tgt := 56) hx hb dX5_insert_80 (by decide) ?_
              have hww : ([(hm, .inr (5, [.ref m1, .ref m2, .ref m3, .int (iI ((pa : Nat) : Int)), .int (iI ((pb : Nat) : Int)), .ref m4, .int (iI ((cp : Nat) : Int)), .ref m5, .int (iI ((ty : Nat) : Int)), .ref m6, .int (iI ((nx : Nat) : Int)), .int (iI (fi)), .int (iI (se)), .int (iI ((le : Nat) : Int)), .ref m7, .int (iI (bp)), .ref m8])), (m1, .inl (cI, 516, .inl (rI (sF ((cn + cp)) ((en + 1)) ((ac ||| 2 ^ en)) cu (up (inR (shF co 0 cp cn) 0 cl d) (0 + d) ((cl d))) (up (inI (shI au 0 cp cn) 0 (fun _ => ((en : Nat) : Int)) d) (0 + d) ((((en + 1) : Nat) : Int) - 1)) (up (inR (shF er 0 cp cn) 0 (fun _ => 0) d) (0 + d) (0)) ((up ki en (0))) ((up bs en (-1))))))), (m4, .inl (cB, 60, .inl (rN (cl))))] : va_W) = [(hm, .inr (5, [.ref m1, .ref m2, .ref m3, .int (iI ((pa : Nat) : Int)), .int (iI ((pb : Nat) : Int)), .ref m4, .int (iI ((cp : Nat) : Int)), .ref m5, .int (iI ((ty : Nat) : Int)), .ref m6, .int (iI ((nx : Nat) : Int)), .int (iI (fi)), .int (iI (se)), .int (iI ((le : Nat) : Int)), .ref m7, .int (iI (bp)), .ref m8])), (m1, .inl (cI, 516, .inl (rI (sF (cn + cp) (en + 1) (ac ||| 2 ^ en) cu (inR (shF co 0 cp cn) 0 cl (d + 1)) (inI (shI au 0 cp cn) 0 (fun _ => ((en : Nat) : Int)) (d + 1)) (inR (shF er 0 cp cn) 0 (fun _ => 0) (d + 1)) (up ki en (0)) (up bs en (-1)))))), (m4, .inl (cB, 60, .inl (rN (cl))))] := by rw [inR_s rfl, inI_s (g := fun _ => ((en : Nat) : Int)) (d := d) (v := ((en + 1 : Nat) : Int) - 1) (show ((en : Nat) : Int) = ((en + 1 : Nat) : Int) - 1 by omega), inR_s rfl]
              rw [hww] at hP hD
              exact ih_56 (d + 1) (by first | omega | (have h9 : True := trivial; omega)) (by first | assumption | (first | omega | (have h9 : True := trivial; omega))) H locs hP hD hS ls (lv_sub hl [1, 2, 3, 0] rfl)
        have hww : ([(hm, .inr (5, [.ref m1, .ref m2, .ref m3, .int (iI ((pa : Nat) : Int)), .int (iI ((pb : Nat) : Int)), .ref m4, .int (iI ((cp : Nat) : Int)), .ref m5, .int (iI ((ty : Nat) : Int)), .ref m6, .int (iI ((nx : Nat) : Int)), .int (iI (fi)), .int (iI (se)), .int (iI ((le : Nat) : Int)), .ref m7, .int (iI (bp)), .ref m8])), (m1, .inl (cI, 516, .inl (rI (sF (cn + cp) (en + 1) (ac ||| 2 ^ en) cu (shF co 0 cp cn) (shI au 0 cp cn) (shF er 0 cp cn) (up ki en (0)) (up bs en (-1)))))), (m4, .inl (cB, 60, .inl (rN (cl))))] : va_W) = [(hm, .inr (5, [.ref m1, .ref m2, .ref m3, .int (iI ((pa : Nat) : Int)), .int (iI ((pb : Nat) : Int)), .ref m4, .int (iI ((cp : Nat) : Int)), .ref m5, .int (iI ((ty : Nat) : Int)), .ref m6, .int (iI ((nx : Nat) : Int)), .int (iI (fi)), .int (iI (se)), .int (iI ((le : Nat) : Int)), .ref m7, .int (iI (bp)), .ref m8])), (m1, .inl (cI, 516, .inl (rI (sF (cn + cp) (en + 1) (ac ||| 2 ^ en) cu (inR (shF co 0 cp cn) 0 cl 0) (inI (shI au 0 cp cn) 0 (fun _ => ((en : Nat) : Int)) 0) (inR (shF er 0 cp cn) 0 (fun _ => 0) 0) (up ki en (0)) (up bs en (-1)))))), (m4, .inl (cB, 60, .inl (rN (cl))))] := by rw [inR_0, inI_0, inR_0]
        rw [hww] at hP hD
        exact loop_56 ((cp - 0) + 1) 0 (by first | omega | (have h9 : True := trivial; omega)) (by first | assumption | (first | omega | (have h9 : True := trivial; omega))) H locs hP hD hS ls (lv_sub hl [2, 3, 1, 0] rfl)
      · skip
        exfalso; omega
    · skip
      exfalso; omega
  · skip
    exfalso; omega
