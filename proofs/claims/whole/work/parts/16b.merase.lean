set_option maxHeartbeats 4000000 in
set_option maxRecDepth 100000 in
theorem m_erases_bad (l : Launch) (D : va_G) (cI cB cZ cO : ClassId) (hm : Nat) (m1 : Nat) (m2 : Nat) (m3 : Nat) (m4 : Nat) (m5 : Nat) (m6 : Nat) (m7 : Nat) (m8 : Nat) (pa : Nat) (pb : Nat) (cp : Nat) (ty : Nat) (nx : Nat) (fi : Int) (se : Int) (le : Nat) (bp : Int) (cn : Nat) (en : Nat) (ac : Nat) (cu : Nat) (co : Nat → Nat) (au : Nat → Int) (er : Nat → Nat) (ki : Nat → Nat) (bs : Nat → Int) (x : Int) (y : Int) (hcn : cn ≤ 160) (hac : ac < 65536) (hau : ∀ k, -1 ≤ au k ∧ au k < 16) (her : ∀ k, er k < 65536) (hen : en ≤ 16) (rx : rg x) (ry : rg y) (hbad : ¬ (0 ≤ x ∧ x < y ∧ y ≤ ((cnt (visb (omF au) er ac) cn : Nat) : Int))) : Met l yX5_erases wsX5_erases ({ frames := 3, cells := 0, slots := 0, locals := 66 }) (va_Pc [.ref hm, .int (iI (x)), .int (iI (y))] (RO D cI cB cZ cO [(hm, .inr (5, [.ref m1, .ref m2, .ref m3, .int (iI ((pa : Nat) : Int)), .int (iI ((pb : Nat) : Int)), .ref m4, .int (iI ((cp : Nat) : Int)), .ref m5, .int (iI ((ty : Nat) : Int)), .ref m6, .int (iI ((nx : Nat) : Int)), .int (iI (fi)), .int (iI (se)), .int (iI ((le : Nat) : Int)), .ref m7, .int (iI (bp)), .ref m8])), (m1, .inl (cI, 516, .inl (rI (sF cn en ac cu co au er ki bs))))])) (QO (-1)) 0 0 (fun _ => False) := by
  refine startO (cc := cX5_erases) (maxL := 8) (ret := (some .int)) (by decide) rfl (Nat.le_of_ble_eq_true rfl) ?_
  intro p e s m below meth c S hr hlocks hE hP ls hl
  have hx := S.1
  have hb := S.2.1
  have hown := S.2.2.2.1
  have hts := S.2.2.2.2
  have hK := hE.1
  have hl : lv_has ls 8 [(0, .ref hm), (1, .int (iI (x))), (2, .int (iI (y)))] := hl
  have hcl := cnt_le (visb (omF au) er ac) cn
  refine lv_aload_n hx hb dX5_erases_0 rfl (lv_at hl 0 rfl) ?_
  refine callVO (n := 0) (As := []) (rest := []) (wc := [(hm, .inr (5, [.ref m1, .ref m2, .ref m3, .int (iI ((pa : Nat) : Int)), .int (iI ((pb : Nat) : Int)), .ref m4, .int (iI ((cp : Nat) : Int)), .ref m5, .int (iI ((ty : Nat) : Int)), .ref m6, .int (iI ((nx : Nat) : Int)), .int (iI (fi)), .int (iI (se)), .int (iI ((le : Nat) : Int)), .ref m7, .int (iI (bp)), .ref m8])), (m1, .inl (cI, 516, .inl (rI (sF cn en ac cu co au er ki bs))))]) S (m_length l D cI cB cZ cO hm m1 m2 m3 m4 m5 m6 m7 m8 pa pb cp ty nx fi se le bp cn en ac cu co au er ki bs (by first | assumption | (omega)) (by first | assumption | (omega)) (by first | assumption | (omega)) (by first | assumption | (omega))) gX5_erases_X5_length rfl ⟨rfl, rfl⟩ (by decide +kernel) ⟨Nat.le_of_ble_eq_true rfl, Nat.le_of_ble_eq_true rfl⟩ hE hP [0, 1] rfl 5 0 rfl rfl rfl hl.1 rfl (Nat.le_of_ble_eq_true rfl) dX5_erases_1 ⟨Nat.le_of_ble_eq_true rfl, Nat.le_of_ble_eq_true rfl⟩ ?_
  refine lv_istore_n (lv' := [(3, .int (iI ((cnt (visb (omF au) er ac) cn : Nat) : Int))), (0, .ref hm), (1, .int (iI (x))), (2, .int (iI (y)))]) hx hb dX5_erases_4 rfl hl (by decide) rfl (fun ls hl => ?_)
  refine lv_iload_n hx hb dX5_erases_5 rfl (lv_at hl 2 rfl) ?_
  refine r_iconst hx hb dX5_erases_6 ?_
  refine lv_iload_n hx hb dX5_erases_7 rfl (lv_at hl 0 rfl) ?_
  refine r_iconst hx hb dX5_erases_8 ?_
  refine r_isub (v := (((cnt (visb (omF au) er ac) cn : Nat) : Int) - 1)) hx hb (rfl) dX5_erases_9 ?_
  rw [show (0 : Int) = (0) from by omega]
  refine callSO (n := 3) (As := [.int (iI (x)), .int (iI (0)), .int (iI (((cnt (visb (omF au) er ac) cn : Nat) : Int) - 1))]) (rest := []) (wc := []) S (m_in l D cI cB cZ cO x 0 (((cnt (visb (omF au) er ac) cn : Nat) : Int) - 1) (by first | assumption | (omega)) (by first | assumption | (omega)) (by first | assumption | (omega))) gX5_erases_X5_in rfl ⟨rfl, rfl⟩ (by decide +kernel) ⟨Nat.le_of_ble_eq_true rfl, Nat.le_of_ble_eq_true rfl⟩ hE hP [] rfl rfl hl.1 rfl (Nat.le_of_ble_eq_true rfl) dX5_erases_10 ⟨Nat.le_of_ble_eq_true rfl, Nat.le_of_ble_eq_true rfl⟩ ?_
  refine r_ifb_eq (tgt := 27) hx hb dX5_erases_13 (by decide) (fun c_1 => ?_) (fun c_1 => ?_)
  · skip
    refine r_iconst hx hb dX5_erases_27 ?_
    exact r_iretO hx hb hr hlocks (rfl) dX5_erases_28
  · skip
    refine lv_iload_n hx hb dX5_erases_16 rfl (lv_at hl 3 rfl) ?_
    refine lv_iload_n hx hb dX5_erases_17 rfl (lv_at hl 2 rfl) ?_
    refine r_iconst hx hb dX5_erases_18 ?_
    refine r_iadd (v := ((x) + 1)) hx hb (rfl) dX5_erases_19 ?_
    refine lv_iload_n hx hb dX5_erases_20 rfl (lv_at hl 0 rfl) ?_
    refine callSO (n := 3) (As := [.int (iI (y)), .int (iI ((x) + 1)), .int (iI ((cnt (visb (omF au) er ac) cn : Nat) : Int))]) (rest := []) (wc := []) S (m_in l D cI cB cZ cO y ((x) + 1) (((cnt (visb (omF au) er ac) cn : Nat) : Int)) (by first | assumption | (omega)) (by first | assumption | (omega)) (by first | assumption | (omega))) gX5_erases_X5_in rfl ⟨rfl, rfl⟩ (by decide +kernel) ⟨Nat.le_of_ble_eq_true rfl, Nat.le_of_ble_eq_true rfl⟩ hE hP [] rfl rfl hl.1 rfl (Nat.le_of_ble_eq_true rfl) dX5_erases_21 ⟨Nat.le_of_ble_eq_true rfl, Nat.le_of_ble_eq_true rfl⟩ ?_
    refine r_ifb_ne (tgt := 29) hx hb dX5_erases_24 (by decide) (fun c_2 => ?_) (fun c_2 => ?_)
    · skip
      exfalso; omega
    · skip
      refine r_iconst hx hb dX5_erases_27 ?_
      exact r_iretO hx hb hr hlocks (rfl) dX5_erases_28

theorem kX5_erases_7 : Cond.fieldLink RX5 7 "PricedUndoModel" "s" "[I" ∈ wsX5_erases := by decide +kernel
theorem nX5_erases_X5 : ∀ w ∈ u_ws RX5 TX5 17, w ∈ wsX5_erases := by decide +kernel
set_option maxHeartbeats 4000000 in
set_option maxRecDepth 100000 in
theorem m_erases_full (l : Launch) (D : va_G) (cI cB cZ cO : ClassId) (hm : Nat) (m1 : Nat) (m2 : Nat) (m3 : Nat) (m4 : Nat) (m5 : Nat) (m6 : Nat) (m7 : Nat) (m8 : Nat) (pa : Nat) (pb : Nat) (cp : Nat) (ty : Nat) (nx : Nat) (fi : Int) (se : Int) (le : Nat) (bp : Int) (cn : Nat) (en : Nat) (ac : Nat) (cu : Nat) (co : Nat → Nat) (au : Nat → Int) (er : Nat → Nat) (ki : Nat → Nat) (bs : Nat → Int) (x : Int) (y : Int) (hcn : cn ≤ 160) (hac : ac < 65536) (hau : ∀ k, -1 ≤ au k ∧ au k < 16) (her : ∀ k, er k < 65536) (hen : en ≤ 16) (rx : rg x) (ry : rg y) (hgood : 0 ≤ x ∧ x < y ∧ y ≤ ((cnt (visb (omF au) er ac) cn : Nat) : Int)) (hfull : en = 16) : Met l yX5_erases wsX5_erases ({ frames := 3, cells := 0, slots := 0, locals := 66 }) (va_Pc [.ref hm, .int (iI (x)), .int (iI (y))] (RO D cI cB cZ cO [(hm, .inr (5, [.ref m1, .ref m2, .ref m3, .int (iI ((pa : Nat) : Int)), .int (iI ((pb : Nat) : Int)), .ref m4, .int (iI ((cp : Nat) : Int)), .ref m5, .int (iI ((ty : Nat) : Int)), .ref m6, .int (iI ((nx : Nat) : Int)), .int (iI (fi)), .int (iI (se)), .int (iI ((le : Nat) : Int)), .ref m7, .int (iI (bp)), .ref m8])), (m1, .inl (cI, 516, .inl (rI (sF cn en ac cu co au er ki bs))))])) (QO (-3)) 0 0 (fun _ => False) := by
  refine startO (cc := cX5_erases) (maxL := 8) (ret := (some .int)) (by decide) rfl (Nat.le_of_ble_eq_true rfl) ?_
  intro p e s m below meth c S hr hlocks hE hP ls hl
  have hx := S.1
  have hb := S.2.1
  have hown := S.2.2.2.1
  have hts := S.2.2.2.2
  have hK := hE.1
  have hl : lv_has ls 8 [(0, .ref hm), (1, .int (iI (x))), (2, .int (iI (y)))] := hl
  have hcl := cnt_le (visb (omF au) er ac) cn
  refine lv_aload_n hx hb dX5_erases_0 rfl (lv_at hl 0 rfl) ?_
  refine callVO (n := 0) (As := []) (rest := []) (wc := [(hm, .inr (5, [.ref m1, .ref m2, .ref m3, .int (iI ((pa : Nat) : Int)), .int (iI ((pb : Nat) : Int)), .ref m4, .int (iI ((cp : Nat) : Int)), .ref m5, .int (iI ((ty : Nat) : Int)), .ref m6, .int (iI ((nx : Nat) : Int)), .int (iI (fi)), .int (iI (se)), .int (iI ((le : Nat) : Int)), .ref m7, .int (iI (bp)), .ref m8])), (m1, .inl (cI, 516, .inl (rI (sF cn en ac cu co au er ki bs))))]) S (m_length l D cI cB cZ cO hm m1 m2 m3 m4 m5 m6 m7 m8 pa pb cp ty nx fi se le bp cn en ac cu co au er ki bs (by first | assumption | (omega)) (by first | assumption | (omega)) (by first | assumption | (omega)) (by first | assumption | (omega))) gX5_erases_X5_length rfl ⟨rfl, rfl⟩ (by decide +kernel) ⟨Nat.le_of_ble_eq_true rfl, Nat.le_of_ble_eq_true rfl⟩ hE hP [0, 1] rfl 5 0 rfl rfl rfl hl.1 rfl (Nat.le_of_ble_eq_true rfl) dX5_erases_1 ⟨Nat.le_of_ble_eq_true rfl, Nat.le_of_ble_eq_true rfl⟩ ?_
  refine lv_istore_n (lv' := [(3, .int (iI ((cnt (visb (omF au) er ac) cn : Nat) : Int))), (0, .ref hm), (1, .int (iI (x))), (2, .int (iI (y)))]) hx hb dX5_erases_4 rfl hl (by decide) rfl (fun ls hl => ?_)
  refine lv_iload_n hx hb dX5_erases_5 rfl (lv_at hl 2 rfl) ?_
  refine r_iconst hx hb dX5_erases_6 ?_
  refine lv_iload_n hx hb dX5_erases_7 rfl (lv_at hl 0 rfl) ?_
  refine r_iconst hx hb dX5_erases_8 ?_
  refine r_isub (v := (((cnt (visb (omF au) er ac) cn : Nat) : Int) - 1)) hx hb (rfl) dX5_erases_9 ?_
  rw [show (0 : Int) = (0) from by omega]
  refine callSO (n := 3) (As := [.int (iI (x)), .int (iI (0)), .int (iI (((cnt (visb (omF au) er ac) cn : Nat) : Int) - 1))]) (rest := []) (wc := []) S (m_in l D cI cB cZ cO x 0 (((cnt (visb (omF au) er ac) cn : Nat) : Int) - 1) (by first | assumption | (omega)) (by first | assumption | (omega)) (by first | assumption | (omega))) gX5_erases_X5_in rfl ⟨rfl, rfl⟩ (by decide +kernel) ⟨Nat.le_of_ble_eq_true rfl, Nat.le_of_ble_eq_true rfl⟩ hE hP [] rfl rfl hl.1 rfl (Nat.le_of_ble_eq_true rfl) dX5_erases_10 ⟨Nat.le_of_ble_eq_true rfl, Nat.le_of_ble_eq_true rfl⟩ ?_
  refine r_ifb_eq (tgt := 27) hx hb dX5_erases_13 (by decide) (fun c_1 => ?_) (fun c_1 => ?_)
  · skip
    exfalso; omega
  · skip
    refine lv_iload_n hx hb dX5_erases_16 rfl (lv_at hl 3 rfl) ?_
    refine lv_iload_n hx hb dX5_erases_17 rfl (lv_at hl 2 rfl) ?_
    refine r_iconst hx hb dX5_erases_18 ?_
    refine r_iadd (v := ((x) + 1)) hx hb (rfl) dX5_erases_19 ?_
    refine lv_iload_n hx hb dX5_erases_20 rfl (lv_at hl 0 rfl) ?_
    refine callSO (n := 3) (As := [.int (iI (y)), .int (iI ((x) + 1)), .int (iI ((cnt (visb (omF au) er ac) cn : Nat) : Int))]) (rest := []) (wc := []) S (m_in l D cI cB cZ cO y ((x) + 1) (((cnt (visb (omF au) er ac) cn : Nat) : Int)) (by first | assumption | (omega)) (by first | assumption | (omega)) (by first | assumption | (omega))) gX5_erases_X5_in rfl ⟨rfl, rfl⟩ (by decide +kernel) ⟨Nat.le_of_ble_eq_true rfl, Nat.le_of_ble_eq_true rfl⟩ hE hP [] rfl rfl hl.1 rfl (Nat.le_of_ble_eq_true rfl) dX5_erases_21 ⟨Nat.le_of_ble_eq_true rfl, Nat.le_of_ble_eq_true rfl⟩ ?_
    refine r_ifb_ne (tgt := 29) hx hb dX5_erases_24 (by decide) (fun c_2 => ?_) (fun c_2 => ?_)
    · skip
      refine lv_aload_n hx hb dX5_erases_29 rfl (lv_at hl 1 rfl) ?_
      refine va_get (D := D) (ci := 5) (v := .ref m1) (C := RX5) (T := TX5) (N := 17) hx hb hts nX5_erases_X5 hown hK hP 0 rfl rfl 0 (by decide) (hts _ kX5_erases_7) (fun _ h9 => h9) rfl dX5_erases_30 ?_
      refine r_iconst hx hb dX5_erases_33 ?_
      refine r_ialdV (v := ((en : Nat) : Int)) hx hb hK hP 1 0 rfl rfl (1) (rfl) (by decide) (by decide) (rfl) dX5_erases_34 ?_
      refine r_bipush hx hb dX5_erases_35 (by decide) ?_
      refine r_icmp_ne (tgt := 43) hx hb (by omega) (⟨by decide, by decide⟩) dX5_erases_37 (by decide) (fun c_3 => ?_) (fun c_3 => ?_)
      · skip
        exfalso; omega
      · skip
        refine r_bipush hx hb dX5_erases_40 (by decide) ?_
        exact r_iretO hx hb hr hlocks (rfl) dX5_erases_42
    · skip
      exfalso; omega

set_option maxHeartbeats 4000000 in
set_option maxRecDepth 100000 in
theorem m_erases (l : Launch) (D : va_G) (cI cB cZ cO : ClassId) (sz : Nat) (hm : Nat) (m1 : Nat) (m2 : Nat) (m3 : Nat) (m4 : Nat) (m5 : Nat) (m6 : Nat) (m7 : Nat) (m8 : Nat) (pa : Nat) (pb : Nat) (cp : Nat) (ty : Nat) (nx : Nat) (fi : Int) (se : Int) (le : Nat) (bp : Int) (cn : Nat) (en : Nat) (ac : Nat) (cu : Nat) (co : Nat → Nat) (au : Nat → Int) (er : Nat → Nat) (ki : Nat → Nat) (bs : Nat → Int) (f1 : Nat) (t1 : Nat) (hcn : cn ≤ 160) (hac : ac < 65536) (hau : ∀ k, -1 ≤ au k ∧ au k < 16) (her : ∀ k, er k < 65536) (hen : en < 16) (hf1 : f1 < t1) (ht1 : t1 ≤ cnt (visb (omF au) er ac) cn) (hcu : cu ≤ 60) : Met l yX5_erases wsX5_erases ({ frames := 4, cells := 0, slots := 0, locals := 87 }) (va_Pc [.ref hm, .int (iI ((f1 : Nat) : Int)), .int (iI ((t1 : Nat) : Int))] (RW D cI cB cZ cO sz [(hm, .inr (5, [.ref m1, .ref m2, .ref m3, .int (iI ((pa : Nat) : Int)), .int (iI ((pb : Nat) : Int)), .ref m4, .int (iI ((cp : Nat) : Int)), .ref m5, .int (iI ((ty : Nat) : Int)), .ref m6, .int (iI ((nx : Nat) : Int)), .int (iI (fi)), .int (iI (se)), .int (iI ((le : Nat) : Int)), .ref m7, .int (iI (bp)), .ref m8])), (m1, .inl (cI, 516, .inl (rI (sF cn en ac cu co au er ki bs))))])) (QX D (S := Unit) (fun u => some (.int (iI ((en : Nat) : Int)))) (fun u => True) (fun u => [(hm, .inr (5, [.ref m1, .ref m2, .ref m3, .int (iI ((pa : Nat) : Int)), .int (iI ((pb : Nat) : Int)), .ref m4, .int (iI ((cp : Nat) : Int)), .ref m5, .int (iI ((ty : Nat) : Int)), .ref m6, .int (iI ((nx : Nat) : Int)), .int (iI (fi)), .int (iI (se)), .int (iI ((le : Nat) : Int)), .ref m7, .int (iI (bp)), .ref m8])), (m1, .inl (cI, 516, .inl (rI (sF cn (en + 1) (ac ||| 2 ^ en) (min cu (cnt (visb (omF au) (erM (visb (omF au) er ac) er f1 t1 en cn) (ac ||| 2 ^ en)) cn)) co au (erM (visb (omF au) er ac) er f1 t1 en cn) (up ki en (1)) (up bs en (-1))))))]) (va_A [(hm, .inr (5, [.ref m1, .ref m2, .ref m3, .int (iI ((pa : Nat) : Int)), .int (iI ((pb : Nat) : Int)), .ref m4, .int (iI ((cp : Nat) : Int)), .ref m5, .int (iI ((ty : Nat) : Int)), .ref m6, .int (iI ((nx : Nat) : Int)), .int (iI (fi)), .int (iI (se)), .int (iI ((le : Nat) : Int)), .ref m7, .int (iI (bp)), .ref m8])), (m1, .inl (cI, 516, .inl (rI (sF cn en ac cu co au er ki bs))))] sz)) 0 0 (va_A [(hm, .inr (5, [.ref m1, .ref m2, .ref m3, .int (iI ((pa : Nat) : Int)), .int (iI ((pb : Nat) : Int)), .ref m4, .int (iI ((cp : Nat) : Int)), .ref m5, .int (iI ((ty : Nat) : Int)), .ref m6, .int (iI ((nx : Nat) : Int)), .int (iI (fi)), .int (iI (se)), .int (iI ((le : Nat) : Int)), .ref m7, .int (iI (bp)), .ref m8])), (m1, .inl (cI, 516, .inl (rI (sF cn en ac cu co au er ki bs))))] sz) := by
  refine startW (cc := cX5_erases) (maxL := 8) (ret := (some .int)) (by decide) rfl (Nat.le_of_ble_eq_true rfl) ?_
  intro p e s m below meth c S hr hlocks hE hP A hD hA hS ls hl
  have hx := S.1
  have hb := S.2.1
  have hown := S.2.2.2.1
  have hts := S.2.2.2.2
  have hK := hE.1
  have hl : lv_has ls 8 [(0, .ref hm), (1, .int (iI ((f1 : Nat) : Int))), (2, .int (iI ((t1 : Nat) : Int)))] := hl
  have hcl := cnt_le (visb (omF au) er ac) cn
  refine lv_aload_n hx hb dX5_erases_0 rfl (lv_at hl 0 rfl) ?_
  refine callVO (n := 0) (As := []) (rest := []) (wc := [(hm, .inr (5, [.ref m1, .ref m2, .ref m3, .int (iI ((pa : Nat) : Int)), .int (iI ((pb : Nat) : Int)), .ref m4, .int (iI ((cp : Nat) : Int)), .ref m5, .int (iI ((ty : Nat) : Int)), .ref m6, .int (iI ((nx : Nat) : Int)), .int (iI (fi)), .int (iI (se)), .int (iI ((le : Nat) : Int)), .ref m7, .int (iI (bp)), .ref m8])), (m1, .inl (cI, 516, .inl (rI (sF cn en ac cu co au er ki bs))))]) S (m_length l D cI cB cZ cO hm m1 m2 m3 m4 m5 m6 m7 m8 pa pb cp ty nx fi se le bp cn en ac cu co au er ki bs (by first | assumption | (first | omega | assumption | exact erM_lt her (by omega) | exact or16 (by omega) (pow16 (by omega)))) (by first | assumption | (first | omega | assumption | exact erM_lt her (by omega) | exact or16 (by omega) (pow16 (by omega)))) (by first | assumption | (first | omega | assumption | exact erM_lt her (by omega) | exact or16 (by omega) (pow16 (by omega)))) (by first | assumption | (first | omega | assumption | exact erM_lt her (by omega) | exact or16 (by omega) (pow16 (by omega))))) gX5_erases_X5_length rfl ⟨rfl, rfl⟩ (by decide +kernel) ⟨Nat.le_of_ble_eq_true rfl, Nat.le_of_ble_eq_true rfl⟩ hE hP [0, 1] rfl 5 0 rfl rfl rfl hl.1 rfl (Nat.le_of_ble_eq_true rfl) dX5_erases_1 ⟨Nat.le_of_ble_eq_true rfl, Nat.le_of_ble_eq_true rfl⟩ ?_
  refine lv_istore_n (lv' := [(3, .int (iI ((cnt (visb (omF au) er ac) cn : Nat) : Int))), (0, .ref hm), (1, .int (iI ((f1 : Nat) : Int))), (2, .int (iI ((t1 : Nat) : Int)))]) hx hb dX5_erases_4 rfl hl (by decide) rfl (fun ls hl => ?_)
  refine lv_iload_n hx hb dX5_erases_5 rfl (lv_at hl 2 rfl) ?_
  refine r_iconst hx hb dX5_erases_6 ?_
  refine lv_iload_n hx hb dX5_erases_7 rfl (lv_at hl 0 rfl) ?_
  refine r_iconst hx hb dX5_erases_8 ?_
  refine r_isub (v := (((cnt (visb (omF au) er ac) cn : Nat) : Int) - 1)) hx hb (rfl) dX5_erases_9 ?_
  rw [show (0 : Int) = (0) from by omega]
  refine callSO (n := 3) (As := [.int (iI ((f1 : Nat) : Int)), .int (iI (0)), .int (iI (((cnt (visb (omF au) er ac) cn : Nat) : Int) - 1))]) (rest := []) (wc := []) S (m_in l D cI cB cZ cO (((f1 : Nat) : Int)) 0 (((cnt (visb (omF au) er ac) cn : Nat) : Int) - 1) (by first | assumption | (first | omega | assumption | exact erM_lt her (by omega) | exact or16 (by omega) (pow16 (by omega)))) (by first | assumption | (first | omega | assumption | exact erM_lt her (by omega) | exact or16 (by omega) (pow16 (by omega)))) (by first | assumption | (first | omega | assumption | exact erM_lt her (by omega) | exact or16 (by omega) (pow16 (by omega))))) gX5_erases_X5_in rfl ⟨rfl, rfl⟩ (by decide +kernel) ⟨Nat.le_of_ble_eq_true rfl, Nat.le_of_ble_eq_true rfl⟩ hE hP [] rfl rfl hl.1 rfl (Nat.le_of_ble_eq_true rfl) dX5_erases_10 ⟨Nat.le_of_ble_eq_true rfl, Nat.le_of_ble_eq_true rfl⟩ ?_
  refine r_ifb_eq (tgt := 27) hx hb dX5_erases_13 (by decide) (fun c_1 => ?_) (fun c_1 => ?_)
  · skip
    exfalso; omega
  · skip
    refine lv_iload_n hx hb dX5_erases_16 rfl (lv_at hl 3 rfl) ?_
    refine lv_iload_n hx hb dX5_erases_17 rfl (lv_at hl 2 rfl) ?_
    refine r_iconst hx hb dX5_erases_18 ?_
    refine r_iadd (v := ((f1 + 1 : Nat) : Int)) hx hb (rfl) dX5_erases_19 ?_
    refine lv_iload_n hx hb dX5_erases_20 rfl (lv_at hl 0 rfl) ?_
    refine callSO (n := 3) (As := [.int (iI ((t1 : Nat) : Int)), .int (iI ((f1 + 1 : Nat) : Int)), .int (iI ((cnt (visb (omF au) er ac) cn : Nat) : Int))]) (rest := []) (wc := []) S (m_in l D cI cB cZ cO (((t1 : Nat) : Int)) (((f1 + 1 : Nat) : Int)) (((cnt (visb (omF au) er ac) cn : Nat) : Int)) (by first | assumption | (first | omega | assumption | exact erM_lt her (by omega) | exact or16 (by omega) (pow16 (by omega)))) (by first | assumption | (first | omega | assumption | exact erM_lt her (by omega) | exact or16 (by omega) (pow16 (by omega)))) (by first | assumption | (first | omega | assumption | exact erM_lt her (by omega) | exact or16 (by omega) (pow16 (by omega))))) gX5_erases_X5_in rfl ⟨rfl, rfl⟩ (by decide +kernel) ⟨Nat.le_of_ble_eq_true rfl, Nat.le_of_ble_eq_true rfl⟩ hE hP [] rfl rfl hl.1 rfl (Nat.le_of_ble_eq_true rfl) dX5_erases_21 ⟨Nat.le_of_ble_eq_true rfl, Nat.le_of_ble_eq_true rfl⟩ ?_
    refine r_ifb_ne (tgt := 29) hx hb dX5_erases_24 (by decide) (fun c_2 => ?_) (fun c_2 => ?_)
    · skip
      refine lv_aload_n hx hb dX5_erases_29 rfl (lv_at hl 1 rfl) ?_
      refine va_get (D := D) (ci := 5) (v := .ref m1) (C := RX5) (T := TX5) (N := 17) hx hb hts nX5_erases_X5 hown hK hP 0 rfl rfl 0 (by decide) (hts _ kX5_erases_7) (fun _ h9 => h9) rfl dX5_erases_30 ?_
      refine r_iconst hx hb dX5_erases_33 ?_
      refine r_ialdV (v := ((en : Nat) : Int)) hx hb hK hP 1 0 rfl rfl (1) (rfl) (by decide) (by decide) (rfl) dX5_erases_34 ?_
      refine r_bipush hx hb dX5_erases_35 (by decide) ?_
      refine r_icmp_ne (tgt := 43) hx hb (by omega) (⟨by decide, by decide⟩) dX5_erases_37 (by decide) (fun c_3 => ?_) (fun c_3 => ?_)
      · skip
        refine lv_aload_n hx hb dX5_erases_43 rfl (lv_at hl 1 rfl) ?_
        refine va_get (D := D) (ci := 5) (v := .ref m1) (C := RX5) (T := TX5) (N := 17) hx hb hts nX5_erases_X5 hown hK hP 0 rfl rfl 0 (by decide) (hts _ kX5_erases_7) (fun _ h9 => h9) rfl dX5_erases_44 ?_
        refine r_iconst hx hb dX5_erases_47 ?_
        refine r_ialdV (v := ((en : Nat) : Int)) hx hb hK hP 1 0 rfl rfl (1) (rfl) (by decide) (by decide) (rfl) dX5_erases_48 ?_
        refine lv_istore (lv' := [(4, .int (iI ((en : Nat) : Int))), (3, .int (iI ((cnt (visb (omF au) er ac) cn : Nat) : Int))), (0, .ref hm), (1, .int (iI ((f1 : Nat) : Int))), (2, .int (iI ((t1 : Nat) : Int)))]) hx hb dX5_erases_49 hl (by decide) rfl (fun ls hl => ?_)
        refine r_iconst hx hb dX5_erases_51 ?_
        refine lv_istore (lv' := [(5, .int (iI 0)), (4, .int (iI ((en : Nat) : Int))), (3, .int (iI ((cnt (visb (omF au) er ac) cn : Nat) : Int))), (0, .ref hm), (1, .int (iI ((f1 : Nat) : Int))), (2, .int (iI ((t1 : Nat) : Int)))]) hx hb dX5_erases_52 hl (by decide) rfl (fun ls hl => ?_)
        refine r_iconst hx hb dX5_erases_54 ?_
        refine lv_istore (lv' := [(6, .int (iI 0)), (5, .int (iI 0)), (4, .int (iI ((en : Nat) : Int))), (3, .int (iI ((cnt (visb (omF au) er ac) cn : Nat) : Int))), (0, .ref hm), (1, .int (iI ((f1 : Nat) : Int))), (2, .int (iI ((t1 : Nat) : Int)))]) hx hb dX5_erases_55 hl (by decide) rfl (fun ls hl => ?_)
        have loop_57 : ∀ (n_57 : Nat) (k : Nat), (cn - k) < n_57 → (k ≤ cn) → ∀ (H : Heap) (locs : List Loc), va_P D vwCl [(hm, .inr (5, [.ref m1, .ref m2, .ref m3, .int (iI ((pa : Nat) : Int)), .int (iI ((pb : Nat) : Int)), .ref m4, .int (iI ((cp : Nat) : Int)), .ref m5, .int (iI ((ty : Nat) : Int)), .ref m6, .int (iI ((nx : Nat) : Int)), .int (iI (fi)), .int (iI (se)), .int (iI ((le : Nat) : Int)), .ref m7, .int (iI (bp)), .ref m8])), (m1, .inl (cI, 516, .inl (rI (sF cn en ac cu co au (erM (visb (omF au) er ac) er f1 t1 en k) ki bs))))] H → va_D A [(hm, .inr (5, [.ref m1, .ref m2, .ref m3, .int (iI ((pa : Nat) : Int)), .int (iI ((pb : Nat) : Int)), .ref m4, .int (iI ((cp : Nat) : Int)), .ref m5, .int (iI ((ty : Nat) : Int)), .ref m6, .int (iI ((nx : Nat) : Int)), .int (iI (fi)), .int (iI (se)), .int (iI ((le : Nat) : Int)), .ref m7, .int (iI (bp)), .ref m8])), (m1, .inl (cI, 516, .inl (rI (sF cn en ac cu co au (erM (visb (omF au) er ac) er f1 t1 en k) ki bs))))] → va_S A s.heap H locs → ∀ (ls : Array Slot), lv_has ls 8 [(0, .ref hm), (1, .int (iI ((f1 : Nat) : Int))), (2, .int (iI ((t1 : Nat) : Int))), (3, .int (iI ((cnt (visb (omF au) er ac) cn : Nat) : Int))), (4, .int (iI ((en : Nat) : Int))), (5, .int (iI ((cnt (visb (omF au) er ac) k : Nat) : Int))), (6, .int (iI ((k : Nat) : Int)))] → W p l e ({ frames := 4, cells := 0, slots := 0, locals := 87 }) s m ([.ref hm, .int (iI ((f1 : Nat) : Int)), .int (iI ((t1 : Nat) : Int))] : List Value).toArray below meth c H locs 0 0 (MQ below (QX D (S := Unit) (fun u => some (.int (iI ((en : Nat) : Int)))) (fun u => True) (fun u => [(hm, .inr (5, [.ref m1, .ref m2, .ref m3, .int (iI ((pa : Nat) : Int)), .int (iI ((pb : Nat) : Int)), .ref m4, .int (iI ((cp : Nat) : Int)), .ref m5, .int (iI ((ty : Nat) : Int)), .ref m6, .int (iI ((nx : Nat) : Int)), .int (iI (fi)), .int (iI (se)), .int (iI ((le : Nat) : Int)), .ref m7, .int (iI (bp)), .ref m8])), (m1, .inl (cI, 516, .inl (rI (sF cn (en + 1) (ac ||| 2 ^ en) (min cu (cnt (visb (omF au) (erM (visb (omF au) er ac) er f1 t1 en cn) (ac ||| 2 ^ en)) cn)) co au (erM (visb (omF au) er ac) er f1 t1 en cn) (up ki en (1)) (up bs en (-1))))))]) A) ([.ref hm, .int (iI ((f1 : Nat) : Int)), .int (iI ((t1 : Nat) : Int))] : List Value).toArray s 0 0 A) (F0 m 57 ls []) := by
          intro n_57
          induction n_57 with
          | zero => intro k h_meas; exact absurd h_meas (Nat.not_lt_zero _)
          | succ n_57 ih_57 =>
            intro k h_m57 ik H locs hP hD hS ls hl
            have hck := cnt_le (visb (omF au) er ac) k
            have hvk : vis (omF au) (erM (visb (omF au) er ac) er f1 t1 en k) ac k ↔ vis (omF au) er ac k := vis_er erM_k
            refine lv_iload hx hb dX5_erases_57 (lv_at hl 6 rfl) ?_
            refine lv_aload_n hx hb dX5_erases_59 rfl (lv_at hl 0 rfl) ?_
            refine va_get (D := D) (ci := 5) (v := .ref m1) (C := RX5) (T := TX5) (N := 17) hx hb hts nX5_erases_X5 hown hK hP 0 rfl rfl 0 (by decide) (hts _ kX5_erases_7) (fun _ h9 => h9) rfl dX5_erases_60 ?_
            refine r_iconst hx hb dX5_erases_63 ?_
            refine r_ialdV (v := ((cn : Nat) : Int)) hx hb hK hP 1 0 rfl rfl (0) (rfl) (by decide) (by decide) (rfl) dX5_erases_64 ?_
            refine r_icmp_ge (tgt := 142) hx hb (by omega) (by omega) dX5_erases_65 (by decide) (fun c_4 => ?_) (fun c_4 => ?_)
            · skip
              obtain rfl : cn = k := by omega
              refine lv_aload_n hx hb dX5_erases_142 rfl (lv_at hl 0 rfl) ?_
              refine va_get (D := D) (ci := 5) (v := .ref m1) (C := RX5) (T := TX5) (N := 17) hx hb hts nX5_erases_X5 hown hK hP 0 rfl rfl 0 (by decide) (hts _ kX5_erases_7) (fun _ h9 => h9) rfl dX5_erases_143 ?_
              refine r_sipush hx hb dX5_erases_146 (by decide) ?_
              refine lv_iload hx hb dX5_erases_149 (lv_at hl 4 rfl) ?_
              refine r_iadd (v := ((484 + en : Nat) : Int)) hx hb (rfl) dX5_erases_151 ?_
              refine r_iconst hx hb dX5_erases_152 ?_
              refine r_iastV (g := sF cn en ac cu co au (erM (visb (omF au) er ac) er f1 t1 en cn) (up ki en 1) bs) (v := ((1 : Nat) : Int)) hx hb hK hP hD hS 1 0 rfl rfl (484 + en) (rfl) (by omega) (by decide) (sF_uki (by omega)) dX5_erases_153 (fun H locs hP hD hS => ?_)
              have hP : va_P D vwCl [(hm, .inr (5, [.ref m1, .ref m2, .ref m3, .int (iI ((pa : Nat) : Int)), .int (iI ((pb : Nat) : Int)), .ref m4, .int (iI ((cp : Nat) : Int)), .ref m5, .int (iI ((ty : Nat) : Int)), .ref m6, .int (iI ((nx : Nat) : Int)), .int (iI (fi)), .int (iI (se)), .int (iI ((le : Nat) : Int)), .ref m7, .int (iI (bp)), .ref m8])), (m1, .inl (cI, 516, .inl (rI (sF cn en ac cu co au (erM (visb (omF au) er ac) er f1 t1 en cn) (up ki en 1) bs))))] H := hP
              have hD : va_D A [(hm, .inr (5, [.ref m1, .ref m2, .ref m3, .int (iI ((pa : Nat) : Int)), .int (iI ((pb : Nat) : Int)), .ref m4, .int (iI ((cp : Nat) : Int)), .ref m5, .int (iI ((ty : Nat) : Int)), .ref m6, .int (iI ((nx : Nat) : Int)), .int (iI (fi)), .int (iI (se)), .int (iI ((le : Nat) : Int)), .ref m7, .int (iI (bp)), .ref m8])), (m1, .inl (cI, 516, .inl (rI (sF cn en ac cu co au (erM (visb (omF au) er ac) er f1 t1 en cn) (up ki en 1) bs))))] := hD
              refine lv_aload_n hx hb dX5_erases_154 rfl (lv_at hl 0 rfl) ?_
              refine va_get (D := D) (ci := 5) (v := .ref m1) (C := RX5) (T := TX5) (N := 17) hx hb hts nX5_erases_X5 hown hK hP 0 rfl rfl 0 (by decide) (hts _ kX5_erases_7) (fun _ h9 => h9) rfl dX5_erases_155 ?_
              refine r_sipush hx hb dX5_erases_158 (by decide) ?_
              refine lv_iload hx hb dX5_erases_161 (lv_at hl 4 rfl) ?_
              refine r_iadd (v := ((500 + en : Nat) : Int)) hx hb (rfl) dX5_erases_163 ?_
              refine r_iconst hx hb dX5_erases_164 ?_
              refine r_iastV (g := sF cn en ac cu co au (erM (visb (omF au) er ac) er f1 t1 en cn) (up ki en 1) (up bs en (-1))) (v := (-1)) hx hb hK hP hD hS 1 0 rfl rfl (500 + en) (rfl) (by omega) (by decide) (sF_ubs (by omega)) dX5_erases_165 (fun H locs hP hD hS => ?_)
              have hP : va_P D vwCl [(hm, .inr (5, [.ref m1, .ref m2, .ref m3, .int (iI ((pa : Nat) : Int)), .int (iI ((pb : Nat) : Int)), .ref m4, .int (iI ((cp : Nat) : Int)), .ref m5, .int (iI ((ty : Nat) : Int)), .ref m6, .int (iI ((nx : Nat) : Int)), .int (iI (fi)), .int (iI (se)), .int (iI ((le : Nat) : Int)), .ref m7, .int (iI (bp)), .ref m8])), (m1, .inl (cI, 516, .inl (rI (sF cn en ac cu co au (erM (visb (omF au) er ac) er f1 t1 en cn) (up ki en 1) (up bs en (-1))))))] H := hP
              have hD : va_D A [(hm, .inr (5, [.ref m1, .ref m2, .ref m3, .int (iI ((pa : Nat) : Int)), .int (iI ((pb : Nat) : Int)), .ref m4, .int (iI ((cp : Nat) : Int)), .ref m5, .int (iI ((ty : Nat) : Int)), .ref m6, .int (iI ((nx : Nat) : Int)), .int (iI (fi)), .int (iI (se)), .int (iI ((le : Nat) : Int)), .ref m7, .int (iI (bp)), .ref m8])), (m1, .inl (cI, 516, .inl (rI (sF cn en ac cu co au (erM (visb (omF au) er ac) er f1 t1 en cn) (up ki en 1) (up bs en (-1))))))] := hD
              refine lv_aload_n hx hb dX5_erases_166 rfl (lv_at hl 0 rfl) ?_
              refine va_get (D := D) (ci := 5) (v := .ref m1) (C := RX5) (T := TX5) (N := 17) hx hb hts nX5_erases_X5 hown hK hP 0 rfl rfl 0 (by decide) (hts _ kX5_erases_7) (fun _ h9 => h9) rfl dX5_erases_167 ?_
              refine r_iconst hx hb dX5_erases_170 ?_
              refine lv_dup2_11 hx hb dX5_erases_171 rfl rfl ?_
              refine r_ialdV (v := ((en : Nat) : Int)) hx hb hK hP 1 0 rfl rfl (1) (rfl) (by decide) (by decide) (rfl) dX5_erases_172 ?_
              refine r_iconst hx hb dX5_erases_173 ?_
              refine r_iadd (v := ((en + 1 : Nat) : Int)) hx hb (rfl) dX5_erases_174 ?_
              refine r_iastV (g := sF cn (en + 1) ac cu co au (erM (visb (omF au) er ac) er f1 t1 en cn) (up ki en 1) (up bs en (-1))) (v := ((en + 1 : Nat) : Int)) hx hb hK hP hD hS 1 0 rfl rfl (1) (rfl) (by decide) (by decide) (sF_uen) dX5_erases_175 (fun H locs hP hD hS => ?_)
              have hP : va_P D vwCl [(hm, .inr (5, [.ref m1, .ref m2, .ref m3, .int (iI ((pa : Nat) : Int)), .int (iI ((pb : Nat) : Int)), .ref m4, .int (iI ((cp : Nat) : Int)), .ref m5, .int (iI ((ty : Nat) : Int)), .ref m6, .int (iI ((nx : Nat) : Int)), .int (iI (fi)), .int (iI (se)), .int (iI ((le : Nat) : Int)), .ref m7, .int (iI (bp)), .ref m8])), (m1, .inl (cI, 516, .inl (rI (sF cn (en + 1) ac cu co au (erM (visb (omF au) er ac) er f1 t1 en cn) (up ki en 1) (up bs en (-1))))))] H := hP
              have hD : va_D A [(hm, .inr (5, [.ref m1, .ref m2, .ref m3, .int (iI ((pa : Nat) : Int)), .int (iI ((pb : Nat) : Int)), .ref m4, .int (iI ((cp : Nat) : Int)), .ref m5, .int (iI ((ty : Nat) : Int)), .ref m6, .int (iI ((nx : Nat) : Int)), .int (iI (fi)), .int (iI (se)), .int (iI ((le : Nat) : Int)), .ref m7, .int (iI (bp)), .ref m8])), (m1, .inl (cI, 516, .inl (rI (sF cn (en + 1) ac cu co au (erM (visb (omF au) er ac) er f1 t1 en cn) (up ki en 1) (up bs en (-1))))))] := hD
              refine lv_aload_n hx hb dX5_erases_176 rfl (lv_at hl 0 rfl) ?_
              refine va_get (D := D) (ci := 5) (v := .ref m1) (C := RX5) (T := TX5) (N := 17) hx hb hts nX5_erases_X5 hown hK hP 0 rfl rfl 0 (by decide) (hts _ kX5_erases_7) (fun _ h9 => h9) rfl dX5_erases_177 ?_
              refine r_iconst hx hb dX5_erases_180 ?_
              refine lv_dup2_11 hx hb dX5_erases_181 rfl rfl ?_
              refine r_ialdV (v := ((ac : Nat) : Int)) hx hb hK hP 1 0 rfl rfl (2) (rfl) (by decide) (by decide) (rfl) dX5_erases_182 ?_
              refine r_iconst hx hb dX5_erases_183 ?_
              refine lv_iload hx hb dX5_erases_184 (lv_at hl 4 rfl) ?_
              refine r_shl1 hx hb (en) (rfl) (by omega) dX5_erases_186 ?_
              refine r_ior hx hb (ac) (2 ^ en) (rfl) (rfl) dX5_erases_187 ?_
              refine r_iastV (g := sF cn (en + 1) (ac ||| (2 ^ en)) cu co au (erM (visb (omF au) er ac) er f1 t1 en cn) (up ki en 1) (up bs en (-1))) (v := ((ac ||| (2 ^ en) : Nat) : Int)) hx hb hK hP hD hS 1 0 rfl rfl (2) (rfl) (by decide) (by decide) (sF_uac) dX5_erases_188 (fun H locs hP hD hS => ?_)
              have hP : va_P D vwCl [(hm, .inr (5, [.ref m1, .ref m2, .ref m3, .int (iI ((pa : Nat) : Int)), .int (iI ((pb : Nat) : Int)), .ref m4, .int (iI ((cp : Nat) : Int)), .ref m5, .int (iI ((ty : Nat) : Int)), .ref m6, .int (iI ((nx : Nat) : Int)), .int (iI (fi)), .int (iI (se)), .int (iI ((le : Nat) : Int)), .ref m7, .int (iI (bp)), .ref m8])), (m1, .inl (cI, 516, .inl (rI (sF cn (en + 1) (ac ||| (2 ^ en)) cu co au (erM (visb (omF au) er ac) er f1 t1 en cn) (up ki en 1) (up bs en (-1))))))] H := hP
              have hD : va_D A [(hm, .inr (5, [.ref m1, .ref m2, .ref m3, .int (iI ((pa : Nat) : Int)), .int (iI ((pb : Nat) : Int)), .ref m4, .int (iI ((cp : Nat) : Int)), .ref m5, .int (iI ((ty : Nat) : Int)), .ref m6, .int (iI ((nx : Nat) : Int)), .int (iI (fi)), .int (iI (se)), .int (iI ((le : Nat) : Int)), .ref m7, .int (iI (bp)), .ref m8])), (m1, .inl (cI, 516, .inl (rI (sF cn (en + 1) (ac ||| (2 ^ en)) cu co au (erM (visb (omF au) er ac) er f1 t1 en cn) (up ki en 1) (up bs en (-1))))))] := hD
              refine lv_aload_n hx hb dX5_erases_189 rfl (lv_at hl 0 rfl) ?_
              refine callVX (n := 0) (As := []) (rest := []) (wc := [(hm, .inr (5, [.ref m1, .ref m2, .ref m3, .int (iI ((pa : Nat) : Int)), .int (iI ((pb : Nat) : Int)), .ref m4, .int (iI ((cp : Nat) : Int)), .ref m5, .int (iI ((ty : Nat) : Int)), .ref m6, .int (iI ((nx : Nat) : Int)), .int (iI (fi)), .int (iI (se)), .int (iI ((le : Nat) : Int)), .ref m7, .int (iI (bp)), .ref m8])), (m1, .inl (cI, 516, .inl (rI (sF cn ((en + 1)) ((ac ||| (2 ^ en))) cu co au ((erM (visb (omF au) er ac) er f1 t1 en cn)) ((up ki en 1)) ((up bs en (-1)))))))]) (wr := []) (ws2 := fun u => [(hm, .inr (5, [.ref m1, .ref m2, .ref m3, .int (iI ((pa : Nat) : Int)), .int (iI ((pb : Nat) : Int)), .ref m4, .int (iI ((cp : Nat) : Int)), .ref m5, .int (iI ((ty : Nat) : Int)), .ref m6, .int (iI ((nx : Nat) : Int)), .int (iI (fi)), .int (iI (se)), .int (iI ((le : Nat) : Int)), .ref m7, .int (iI (bp)), .ref m8])), (m1, .inl (cI, 516, .inl (rI (sF cn ((en + 1)) ((ac ||| (2 ^ en))) (min cu (cnt (visb (omF au) (erM (visb (omF au) er ac) er f1 t1 en cn) (ac ||| (2 ^ en))) cn)) co au ((erM (visb (omF au) er ac) er f1 t1 en cn)) ((up ki en 1)) ((up bs en (-1)))))))]) S hE hP hD hS hA (m_cutsCursor l D cI cB cZ cO H.size hm m1 m2 m3 m4 m5 m6 m7 m8 pa pb cp ty nx fi se le bp cn (en + 1) (ac ||| (2 ^ en)) cu co au (erM (visb (omF au) er ac) er f1 t1 en cn) (up ki en 1) (up bs en (-1)) (by first | assumption | (first | omega | assumption | exact erM_lt her (by omega) | exact or16 (by omega) (pow16 (by omega)))) (by first | assumption | (first | omega | assumption | exact erM_lt her (by omega) | exact or16 (by omega) (pow16 (by omega)))) (by first | assumption | (first | omega | assumption | exact erM_lt her (by omega) | exact or16 (by omega) (pow16 (by omega)))) (by first | assumption | (first | omega | assumption | exact erM_lt her (by omega) | exact or16 (by omega) (pow16 (by omega)))) (by first | assumption | (first | omega | assumption | exact erM_lt her (by omega) | exact or16 (by omega) (pow16 (by omega))))) gX5_erases_X5_cutsCursor rfl ⟨rfl, rfl⟩ (by decide +kernel) ⟨Nat.le_of_ble_eq_true rfl, Nat.le_of_ble_eq_true rfl⟩ [0, 1] [] [0, 1] rfl (by decide) rfl (by decide) (by decide) (by decide) (fun u => rfl) 5 0 rfl rfl rfl hl.1 rfl (Nat.le_of_ble_eq_true rfl) dX5_erases_190 ⟨Nat.le_of_ble_eq_true rfl, Nat.le_of_ble_eq_true rfl⟩ (fun u u_5p H locs hP hD hS => ?_)
              have hP : va_P D vwCl [(hm, .inr (5, [.ref m1, .ref m2, .ref m3, .int (iI ((pa : Nat) : Int)), .int (iI ((pb : Nat) : Int)), .ref m4, .int (iI ((cp : Nat) : Int)), .ref m5, .int (iI ((ty : Nat) : Int)), .ref m6, .int (iI ((nx : Nat) : Int)), .int (iI (fi)), .int (iI (se)), .int (iI ((le : Nat) : Int)), .ref m7, .int (iI (bp)), .ref m8])), (m1, .inl (cI, 516, .inl (rI (sF cn ((en + 1)) ((ac ||| (2 ^ en))) (min cu (cnt (visb (omF au) (erM (visb (omF au) er ac) er f1 t1 en cn) (ac ||| (2 ^ en))) cn)) co au ((erM (visb (omF au) er ac) er f1 t1 en cn)) ((up ki en 1)) ((up bs en (-1)))))))] H := hP
              have hD : va_D A [(hm, .inr (5, [.ref m1, .ref m2, .ref m3, .int (iI ((pa : Nat) : Int)), .int (iI ((pb : Nat) : Int)), .ref m4, .int (iI ((cp : Nat) : Int)), .ref m5, .int (iI ((ty : Nat) : Int)), .ref m6, .int (iI ((nx : Nat) : Int)), .int (iI (fi)), .int (iI (se)), .int (iI ((le : Nat) : Int)), .ref m7, .int (iI (bp)), .ref m8])), (m1, .inl (cI, 516, .inl (rI (sF cn ((en + 1)) ((ac ||| (2 ^ en))) (min cu (cnt (visb (omF au) (erM (visb (omF au) er ac) er f1 t1 en cn) (ac ||| (2 ^ en))) cn)) co au ((erM (visb (omF au) er ac) er f1 t1 en cn)) ((up ki en 1)) ((up bs en (-1)))))))] := hD
              refine W.eq (g2 := F0 m 193 ls []) rfl ?_
              refine lv_iload hx hb dX5_erases_193 (lv_at hl 4 rfl) ?_
              exact r_iretX hx hb hr hlocks hP hD hS () (rfl) (trivial) (by first | with_reducible rfl | simp) dX5_erases_195
            · skip
              refine lv_aload_n hx hb dX5_erases_68 rfl (lv_at hl 0 rfl) ?_
              refine lv_iload hx hb dX5_erases_69 (lv_at hl 6 rfl) ?_
              refine lv_aload_n hx hb dX5_erases_71 rfl (lv_at hl 0 rfl) ?_
              refine va_get (D := D) (ci := 5) (v := .ref m1) (C := RX5) (T := TX5) (N := 17) hx hb hts nX5_erases_X5 hown hK hP 0 rfl rfl 0 (by decide) (hts _ kX5_erases_7) (fun _ h9 => h9) rfl dX5_erases_72 ?_
              refine r_iconst hx hb dX5_erases_75 ?_
              refine r_ialdV (v := ((ac : Nat) : Int)) hx hb hK hP 1 0 rfl rfl (2) (rfl) (by decide) (by decide) (rfl) dX5_erases_76 ?_
              refine callVO (n := 2) (As := [.int (iI ((k : Nat) : Int)), .int (iI ((ac : Nat) : Int))]) (rest := []) (wc := [(hm, .inr (5, [.ref m1, .ref m2, .ref m3, .int (iI ((pa : Nat) : Int)), .int (iI ((pb : Nat) : Int)), .ref m4, .int (iI ((cp : Nat) : Int)), .ref m5, .int (iI ((ty : Nat) : Int)), .ref m6, .int (iI ((nx : Nat) : Int)), .int (iI (fi)), .int (iI (se)), .int (iI ((le : Nat) : Int)), .ref m7, .int (iI (bp)), .ref m8])), (m1, .inl (cI, 516, .inl (rI (sF cn en ac cu co au ((erM (visb (omF au) er ac) er f1 t1 en k)) ki bs))))]) S (m_isVisible l D cI cB cZ cO hm m1 m2 m3 m4 m5 m6 m7 m8 pa pb cp ty nx fi se le bp cn en ac cu co au (erM (visb (omF au) er ac) er f1 t1 en k) ki bs k ac (by first | assumption | (first | omega | assumption | exact erM_lt her (by omega) | exact or16 (by omega) (pow16 (by omega)))) (by first | assumption | (first | omega | assumption | exact erM_lt her (by omega) | exact or16 (by omega) (pow16 (by omega)))) (by first | assumption | (first | omega | assumption | exact erM_lt her (by omega) | exact or16 (by omega) (pow16 (by omega)))) (by first | assumption | (first | omega | assumption | exact erM_lt her (by omega) | exact or16 (by omega) (pow16 (by omega))))) gX5_erases_X5_isVisible rfl ⟨rfl, rfl⟩ (by decide +kernel) ⟨Nat.le_of_ble_eq_true rfl, Nat.le_of_ble_eq_true rfl⟩ hE hP [0, 1] rfl 5 0 rfl rfl rfl hl.1 rfl (Nat.le_of_ble_eq_true rfl) dX5_erases_77 ⟨Nat.le_of_ble_eq_true rfl, Nat.le_of_ble_eq_true rfl⟩ ?_
              refine lv_istore (lv' := [(7, .int (iI (bI (vis (omF au) (erM (visb (omF au) er ac) er f1 t1 en k) ac k)))), (0, .ref hm), (1, .int (iI ((f1 : Nat) : Int))), (2, .int (iI ((t1 : Nat) : Int))), (3, .int (iI ((cnt (visb (omF au) er ac) cn : Nat) : Int))), (4, .int (iI ((en : Nat) : Int))), (5, .int (iI ((cnt (visb (omF au) er ac) k : Nat) : Int))), (6, .int (iI ((k : Nat) : Int)))]) hx hb dX5_erases_80 hl (by decide) rfl (fun ls hl => ?_)
              refine lv_aload_n hx hb dX5_erases_82 rfl (lv_at hl 1 rfl) ?_
              refine va_get (D := D) (ci := 5) (v := .ref m1) (C := RX5) (T := TX5) (N := 17) hx hb hts nX5_erases_X5 hown hK hP 0 rfl rfl 0 (by decide) (hts _ kX5_erases_7) (fun _ h9 => h9) rfl dX5_erases_83 ?_
              refine r_sipush hx hb dX5_erases_86 (by decide) ?_
              refine lv_iload hx hb dX5_erases_89 (lv_at hl 7 rfl) ?_
              refine r_iadd (v := ((324 + k : Nat) : Int)) hx hb (rfl) dX5_erases_91 ?_
              refine lv_dup2_11 hx hb dX5_erases_92 rfl rfl ?_
              refine r_ialdV (v := (((erM (visb (omF au) er ac) er f1 t1 en k) k : Nat) : Int)) hx hb hK hP 1 0 rfl rfl (324 + k) (rfl) (by omega) (by decide) (sF_er (by omega)) dX5_erases_93 ?_
              refine lv_iload hx hb dX5_erases_94 (lv_at hl 0 rfl) ?_
              refine r_ifb_eq (tgt := 118) hx hb dX5_erases_96 (by decide) (fun c_6 => ?_) (fun c_6 => ?_)
              · skip
                refine r_iconst hx hb dX5_erases_118 ?_
                refine r_ior hx hb ((erM (visb (omF au) er ac) er f1 t1 en k) k) (0) (rfl) (rfl) dX5_erases_119 ?_
                refine r_iastV (g := sF cn en ac cu co au (up (erM (visb (omF au) er ac) er f1 t1 en k) k (((erM (visb (omF au) er ac) er f1 t1 en k) k) ||| 0)) ki bs) (v := ((((erM (visb (omF au) er ac) er f1 t1 en k) k) ||| 0 : Nat) : Int)) hx hb hK hP hD hS 1 0 rfl rfl (324 + k) (rfl) (by omega) (by decide) (sF_uer (by omega)) dX5_erases_120 (fun H locs hP hD hS => ?_)
                have hP : va_P D vwCl [(hm, .inr (5, [.ref m1, .ref m2, .ref m3, .int (iI ((pa : Nat) : Int)), .int (iI ((pb : Nat) : Int)), .ref m4, .int (iI ((cp : Nat) : Int)), .ref m5, .int (iI ((ty : Nat) : Int)), .ref m6, .int (iI ((nx : Nat) : Int)), .int (iI (fi)), .int (iI (se)), .int (iI ((le : Nat) : Int)), .ref m7, .int (iI (bp)), .ref m8])), (m1, .inl (cI, 516, .inl (rI (sF cn en ac cu co au (up (erM (visb (omF au) er ac) er f1 t1 en k) k (((erM (visb (omF au) er ac) er f1 t1 en k) k) ||| 0)) ki bs))))] H := hP
                have hD : va_D A [(hm, .inr (5, [.ref m1, .ref m2, .ref m3, .int (iI ((pa : Nat) : Int)), .int (iI ((pb : Nat) : Int)), .ref m4, .int (iI ((cp : Nat) : Int)), .ref m5, .int (iI ((ty : Nat) : Int)), .ref m6, .int (iI ((nx : Nat) : Int)), .int (iI (fi)), .int (iI (se)), .int (iI ((le : Nat) : Int)), .ref m7, .int (iI (bp)), .ref m8])), (m1, .inl (cI, 516, .inl (rI (sF cn en ac cu co au (up (erM (visb (omF au) er ac) er f1 t1 en k) k (((erM (visb (omF au) er ac) er f1 t1 en k) k) ||| 0)) ki bs))))] := hD
                refine lv_iload hx hb dX5_erases_121 (lv_at hl 6 rfl) ?_
                refine lv_iload hx hb dX5_erases_123 (lv_at hl 0 rfl) ?_
                refine r_ifb_eq (tgt := 132) hx hb dX5_erases_125 (by decide) (fun c_7 => ?_) (fun c_7 => ?_)
                · skip
                  refine r_iconst hx hb dX5_erases_132 ?_
                  refine r_iadd (v := (((cnt (visb (omF au) er ac) k) + 0 : Nat) : Int)) hx hb (rfl) dX5_erases_133 ?_
                  refine lv_istore (lv' := [(5, .int (iI (((cnt (visb (omF au) er ac) k) + 0 : Nat) : Int))), (7, .int (iI (bI (vis (omF au) (erM (visb (omF au) er ac) er f1 t1 en k) ac k)))), (0, .ref hm), (1, .int (iI ((f1 : Nat) : Int))), (2, .int (iI ((t1 : Nat) : Int))), (3, .int (iI ((cnt (visb (omF au) er ac) cn : Nat) : Int))), (4, .int (iI ((en : Nat) : Int))), (6, .int (iI ((k : Nat) : Int)))]) hx hb dX5_erases_134 hl (by decide) rfl (fun ls hl => ?_)
                  refine lv_iinc (v := iI ((k + 1 : Nat) : Int)) (lv' := [(6, .int (iI ((k + 1 : Nat) : Int))), (5, .int (iI (((cnt (visb (omF au) er ac) k) + 0 : Nat) : Int))), (7, .int (iI (bI (vis (omF au) (erM (visb (omF au) er ac) er f1 t1 en k) ac k)))), (0, .ref hm), (1, .int (iI ((f1 : Nat) : Int))), (2, .int (iI ((t1 : Nat) : Int))), (3, .int (iI ((cnt (visb (omF au) er ac) cn : Nat) : Int))), (4, .int (iI ((en : Nat) : Int)))]) hx hb dX5_erases_136 hl (k := 7) rfl ((iI_add _ _).trans (ii (rfl))) (by decide) rfl (fun ls hl => ?_)
                  refine lv_goto (tgt := 57) hx hb dX5_erases_139 (by decide) ?_
                  have hww : ([(hm, .inr (5, [.ref m1, .ref m2, .ref m3, .int (iI ((pa : Nat) : Int)), .int (iI ((pb : Nat) : Int)), .ref m4, .int (iI ((cp : Nat) : Int)), .ref m5, .int (iI ((ty : Nat) : Int)), .ref m6, .int (iI ((nx : Nat) : Int)), .int (iI (fi)), .int (iI (se)), .int (iI ((le : Nat) : Int)), .ref m7, .int (iI (bp)), .ref m8])), (m1, .inl (cI, 516, .inl (rI (sF cn en ac cu co au (up (erM (visb (omF au) er ac) er f1 t1 en k) k (((erM (visb (omF au) er ac) er f1 t1 en k) k) ||| 0)) ki bs))))] : va_W) = [(hm, .inr (5, [.ref m1, .ref m2, .ref m3, .int (iI ((pa : Nat) : Int)), .int (iI ((pb : Nat) : Int)), .ref m4, .int (iI ((cp : Nat) : Int)), .ref m5, .int (iI ((ty : Nat) : Int)), .ref m6, .int (iI ((nx : Nat) : Int)), .int (iI (fi)), .int (iI (se)), .int (iI ((le : Nat) : Int)), .ref m7, .int (iI (bp)), .ref m8])), (m1, .inl (cI, 516, .inl (rI (sF cn en ac cu co au (erM (visb (omF au) er ac) er f1 t1 en (k + 1)) ki bs))))] := by first | (rw [erM_t ⟨vis_t (hvk.mp (by assumption)), by omega, by omega⟩]) | (rw [erM_f (fun q => by have q2 := q.2; omega)]) | (rw [erM_f (fun q => (by assumption : ¬ vis _ _ _ _) (hvk.mpr (of_decide_eq_true q.1)))])
                  rw [hww] at hP hD
                  have hl : lv_has ls 8 [(6, .int (iI ((k + 1 : Nat) : Int))), (5, .int (iI ((cnt (visb (omF au) er ac) (k + 1) : Nat) : Int))), (7, .int (iI (bI (vis (omF au) (erM (visb (omF au) er ac) er f1 t1 en k) ac k)))), (0, .ref hm), (1, .int (iI ((f1 : Nat) : Int))), (2, .int (iI ((t1 : Nat) : Int))), (3, .int (iI ((cnt (visb (omF au) er ac) cn : Nat) : Int))), (4, .int (iI ((en : Nat) : Int)))] := lv_chg hl 1 5 rfl (show ((((cnt (visb (omF au) er ac) k) + 0 : Nat) : Int) : Int) = ((cnt (visb (omF au) er ac) (k + 1) : Nat) : Int) from by first | (rw [cnt_vt (hvk.mp (by assumption))]) | (rw [cnt_vf (fun q => (by assumption : ¬ vis _ _ _ _) (hvk.mpr q))]; rfl)) rfl
                  exact ih_57 (k + 1) (by omega) (by first | assumption | (omega)) H locs hP hD hS ls (lv_sub hl [3, 4, 5, 6, 7, 1, 0] rfl)
                · skip
                  exact absurd c_7 c_6
              · skip
                refine lv_iload hx hb dX5_erases_99 (lv_at hl 6 rfl) ?_
                refine lv_iload_n hx hb dX5_erases_101 rfl (lv_at hl 2 rfl) ?_
                refine r_icmp_lt (tgt := 118) hx hb (by omega) (by omega) dX5_erases_102 (by decide) (fun c_8 => ?_) (fun c_8 => ?_)
                · skip
                  refine r_iconst hx hb dX5_erases_118 ?_
                  refine r_ior hx hb ((erM (visb (omF au) er ac) er f1 t1 en k) k) (0) (rfl) (rfl) dX5_erases_119 ?_
                  refine r_iastV (g := sF cn en ac cu co au (up (erM (visb (omF au) er ac) er f1 t1 en k) k (((erM (visb (omF au) er ac) er f1 t1 en k) k) ||| 0)) ki bs) (v := ((((erM (visb (omF au) er ac) er f1 t1 en k) k) ||| 0 : Nat) : Int)) hx hb hK hP hD hS 1 0 rfl rfl (324 + k) (rfl) (by omega) (by decide) (sF_uer (by omega)) dX5_erases_120 (fun H locs hP hD hS => ?_)
                  have hP : va_P D vwCl [(hm, .inr (5, [.ref m1, .ref m2, .ref m3, .int (iI ((pa : Nat) : Int)), .int (iI ((pb : Nat) : Int)), .ref m4, .int (iI ((cp : Nat) : Int)), .ref m5, .int (iI ((ty : Nat) : Int)), .ref m6, .int (iI ((nx : Nat) : Int)), .int (iI (fi)), .int (iI (se)), .int (iI ((le : Nat) : Int)), .ref m7, .int (iI (bp)), .ref m8])), (m1, .inl (cI, 516, .inl (rI (sF cn en ac cu co au (up (erM (visb (omF au) er ac) er f1 t1 en k) k (((erM (visb (omF au) er ac) er f1 t1 en k) k) ||| 0)) ki bs))))] H := hP
                  have hD : va_D A [(hm, .inr (5, [.ref m1, .ref m2, .ref m3, .int (iI ((pa : Nat) : Int)), .int (iI ((pb : Nat) : Int)), .ref m4, .int (iI ((cp : Nat) : Int)), .ref m5, .int (iI ((ty : Nat) : Int)), .ref m6, .int (iI ((nx : Nat) : Int)), .int (iI (fi)), .int (iI (se)), .int (iI ((le : Nat) : Int)), .ref m7, .int (iI (bp)), .ref m8])), (m1, .inl (cI, 516, .inl (rI (sF cn en ac cu co au (up (erM (visb (omF au) er ac) er f1 t1 en k) k (((erM (visb (omF au) er ac) er f1 t1 en k) k) ||| 0)) ki bs))))] := hD
                  refine lv_iload hx hb dX5_erases_121 (lv_at hl 6 rfl) ?_
                  refine lv_iload hx hb dX5_erases_123 (lv_at hl 0 rfl) ?_
                  refine r_ifb_eq (tgt := 132) hx hb dX5_erases_125 (by decide) (fun c_9 => ?_) (fun c_9 => ?_)
                  · skip
                    exact absurd c_6 c_9
                  · skip
                    refine r_iconst hx hb dX5_erases_128 ?_
                    refine lv_goto (tgt := 133) hx hb dX5_erases_129 (by decide) ?_
                    refine r_iadd (v := (((cnt (visb (omF au) er ac) k) + 1 : Nat) : Int)) hx hb (rfl) dX5_erases_133 ?_
                    refine lv_istore (lv' := [(5, .int (iI (((cnt (visb (omF au) er ac) k) + 1 : Nat) : Int))), (7, .int (iI (bI (vis (omF au) (erM (visb (omF au) er ac) er f1 t1 en k) ac k)))), (0, .ref hm), (1, .int (iI ((f1 : Nat) : Int))), (2, .int (iI ((t1 : Nat) : Int))), (3, .int (iI ((cnt (visb (omF au) er ac) cn : Nat) : Int))), (4, .int (iI ((en : Nat) : Int))), (6, .int (iI ((k : Nat) : Int)))]) hx hb dX5_erases_134 hl (by decide) rfl (fun ls hl => ?_)
                    refine lv_iinc (v := iI ((k + 1 : Nat) : Int)) (lv' := [(6, .int (iI ((k + 1 : Nat) : Int))), (5, .int (iI (((cnt (visb (omF au) er ac) k) + 1 : Nat) : Int))), (7, .int (iI (bI (vis (omF au) (erM (visb (omF au) er ac) er f1 t1 en k) ac k)))), (0, .ref hm), (1, .int (iI ((f1 : Nat) : Int))), (2, .int (iI ((t1 : Nat) : Int))), (3, .int (iI ((cnt (visb (omF au) er ac) cn : Nat) : Int))), (4, .int (iI ((en : Nat) : Int)))]) hx hb dX5_erases_136 hl (k := 7) rfl ((iI_add _ _).trans (ii (rfl))) (by decide) rfl (fun ls hl => ?_)
                    refine lv_goto (tgt := 57) hx hb dX5_erases_139 (by decide) ?_
                    have hww : ([(hm, .inr (5, [.ref m1, .ref m2, .ref m3, .int (iI ((pa : Nat) : Int)), .int (iI ((pb : Nat) : Int)), .ref m4, .int (iI ((cp : Nat) : Int)), .ref m5, .int (iI ((ty : Nat) : Int)), .ref m6, .int (iI ((nx : Nat) : Int)), .int (iI (fi)), .int (iI (se)), .int (iI ((le : Nat) : Int)), .ref m7, .int (iI (bp)), .ref m8])), (m1, .inl (cI, 516, .inl (rI (sF cn en ac cu co au (up (erM (visb (omF au) er ac) er f1 t1 en k) k (((erM (visb (omF au) er ac) er f1 t1 en k) k) ||| 0)) ki bs))))] : va_W) = [(hm, .inr (5, [.ref m1, .ref m2, .ref m3, .int (iI ((pa : Nat) : Int)), .int (iI ((pb : Nat) : Int)), .ref m4, .int (iI ((cp : Nat) : Int)), .ref m5, .int (iI ((ty : Nat) : Int)), .ref m6, .int (iI ((nx : Nat) : Int)), .int (iI (fi)), .int (iI (se)), .int (iI ((le : Nat) : Int)), .ref m7, .int (iI (bp)), .ref m8])), (m1, .inl (cI, 516, .inl (rI (sF cn en ac cu co au (erM (visb (omF au) er ac) er f1 t1 en (k + 1)) ki bs))))] := by first | (rw [erM_t ⟨vis_t (hvk.mp (by assumption)), by omega, by omega⟩]) | (rw [erM_f (fun q => by have q2 := q.2; omega)]) | (rw [erM_f (fun q => (by assumption : ¬ vis _ _ _ _) (hvk.mpr (of_decide_eq_true q.1)))])
                    rw [hww] at hP hD
                    have hl : lv_has ls 8 [(6, .int (iI ((k + 1 : Nat) : Int))), (5, .int (iI ((cnt (visb (omF au) er ac) (k + 1) : Nat) : Int))), (7, .int (iI (bI (vis (omF au) (erM (visb (omF au) er ac) er f1 t1 en k) ac k)))), (0, .ref hm), (1, .int (iI ((f1 : Nat) : Int))), (2, .int (iI ((t1 : Nat) : Int))), (3, .int (iI ((cnt (visb (omF au) er ac) cn : Nat) : Int))), (4, .int (iI ((en : Nat) : Int)))] := lv_chg hl 1 5 rfl (show ((((cnt (visb (omF au) er ac) k) + 1 : Nat) : Int) : Int) = ((cnt (visb (omF au) er ac) (k + 1) : Nat) : Int) from by first | (rw [cnt_vt (hvk.mp (by assumption))]) | (rw [cnt_vf (fun q => (by assumption : ¬ vis _ _ _ _) (hvk.mpr q))]; rfl)) rfl
                    exact ih_57 (k + 1) (by omega) (by first | assumption | (omega)) H locs hP hD hS ls (lv_sub hl [3, 4, 5, 6, 7, 1, 0] rfl)
                · skip
                  refine lv_iload hx hb dX5_erases_105 (lv_at hl 6 rfl) ?_
                  refine lv_iload_n hx hb dX5_erases_107 rfl (lv_at hl 3 rfl) ?_
                  refine r_icmp_ge (tgt := 118) hx hb (by omega) (by omega) dX5_erases_108 (by decide) (fun c_10 => ?_) (fun c_10 => ?_)
                  · skip
                    refine r_iconst hx hb dX5_erases_118 ?_
                    refine r_ior hx hb ((erM (visb (omF au) er ac) er f1 t1 en k) k) (0) (rfl) (rfl) dX5_erases_119 ?_
                    refine r_iastV (g := sF cn en ac cu co au (up (erM (visb (omF au) er ac) er f1 t1 en k) k (((erM (visb (omF au) er ac) er f1 t1 en k) k) ||| 0)) ki bs) (v := ((((erM (visb (omF au) er ac) er f1 t1 en k) k) ||| 0 : Nat) : Int)) hx hb hK hP hD hS 1 0 rfl rfl (324 + k) (rfl) (by omega) (by decide) (sF_uer (by omega)) dX5_erases_120 (fun H locs hP hD hS => ?_)
                    have hP : va_P D vwCl [(hm, .inr (5, [.ref m1, .ref m2, .ref m3, .int (iI ((pa : Nat) : Int)), .int (iI ((pb : Nat) : Int)), .ref m4, .int (iI ((cp : Nat) : Int)), .ref m5, .int (iI ((ty : Nat) : Int)), .ref m6, .int (iI ((nx : Nat) : Int)), .int (iI (fi)), .int (iI (se)), .int (iI ((le : Nat) : Int)), .ref m7, .int (iI (bp)), .ref m8])), (m1, .inl (cI, 516, .inl (rI (sF cn en ac cu co au (up (erM (visb (omF au) er ac) er f1 t1 en k) k (((erM (visb (omF au) er ac) er f1 t1 en k) k) ||| 0)) ki bs))))] H := hP
                    have hD : va_D A [(hm, .inr (5, [.ref m1, .ref m2, .ref m3, .int (iI ((pa : Nat) : Int)), .int (iI ((pb : Nat) : Int)), .ref m4, .int (iI ((cp : Nat) : Int)), .ref m5, .int (iI ((ty : Nat) : Int)), .ref m6, .int (iI ((nx : Nat) : Int)), .int (iI (fi)), .int (iI (se)), .int (iI ((le : Nat) : Int)), .ref m7, .int (iI (bp)), .ref m8])), (m1, .inl (cI, 516, .inl (rI (sF cn en ac cu co au (up (erM (visb (omF au) er ac) er f1 t1 en k) k (((erM (visb (omF au) er ac) er f1 t1 en k) k) ||| 0)) ki bs))))] := hD
                    refine lv_iload hx hb dX5_erases_121 (lv_at hl 6 rfl) ?_
                    refine lv_iload hx hb dX5_erases_123 (lv_at hl 0 rfl) ?_
                    refine r_ifb_eq (tgt := 132) hx hb dX5_erases_125 (by decide) (fun c_11 => ?_) (fun c_11 => ?_)
                    · skip
                      exact absurd c_6 c_11
                    · skip
                      refine r_iconst hx hb dX5_erases_128 ?_
                      refine lv_goto (tgt := 133) hx hb dX5_erases_129 (by decide) ?_
                      refine r_iadd (v := (((cnt (visb (omF au) er ac) k) + 1 : Nat) : Int)) hx hb (rfl) dX5_erases_133 ?_
                      refine lv_istore (lv' := [(5, .int (iI (((cnt (visb (omF au) er ac) k) + 1 : Nat) : Int))), (7, .int (iI (bI (vis (omF au) (erM (visb (omF au) er ac) er f1 t1 en k) ac k)))), (0, .ref hm), (1, .int (iI ((f1 : Nat) : Int))), (2, .int (iI ((t1 : Nat) : Int))), (3, .int (iI ((cnt (visb (omF au) er ac) cn : Nat) : Int))), (4, .int (iI ((en : Nat) : Int))), (6, .int (iI ((k : Nat) : Int)))]) hx hb dX5_erases_134 hl (by decide) rfl (fun ls hl => ?_)
                      refine lv_iinc (v := iI ((k + 1 : Nat) : Int)) (lv' := [(6, .int (iI ((k + 1 : Nat) : Int))), (5, .int (iI (((cnt (visb (omF au) er ac) k) + 1 : Nat) : Int))), (7, .int (iI (bI (vis (omF au) (erM (visb (omF au) er ac) er f1 t1 en k) ac k)))), (0, .ref hm), (1, .int (iI ((f1 : Nat) : Int))), (2, .int (iI ((t1 : Nat) : Int))), (3, .int (iI ((cnt (visb (omF au) er ac) cn : Nat) : Int))), (4, .int (iI ((en : Nat) : Int)))]) hx hb dX5_erases_136 hl (k := 7) rfl ((iI_add _ _).trans (ii (rfl))) (by decide) rfl (fun ls hl => ?_)
                      refine lv_goto (tgt := 57) hx hb dX5_erases_139 (by decide) ?_
                      have hww : ([(hm, .inr (5, [.ref m1, .ref m2, .ref m3, .int (iI ((pa : Nat) : Int)), .int (iI ((pb : Nat) : Int)), .ref m4, .int (iI ((cp : Nat) : Int)), .ref m5, .int (iI ((ty : Nat) : Int)), .ref m6, .int (iI ((nx : Nat) : Int)), .int (iI (fi)), .int (iI (se)), .int (iI ((le : Nat) : Int)), .ref m7, .int (iI (bp)), .ref m8])), (m1, .inl (cI, 516, .inl (rI (sF cn en ac cu co au (up (erM (visb (omF au) er ac) er f1 t1 en k) k (((erM (visb (omF au) er ac) er f1 t1 en k) k) ||| 0)) ki bs))))] : va_W) = [(hm, .inr (5, [.ref m1, .ref m2, .ref m3, .int (iI ((pa : Nat) : Int)), .int (iI ((pb : Nat) : Int)), .ref m4, .int (iI ((cp : Nat) : Int)), .ref m5, .int (iI ((ty : Nat) : Int)), .ref m6, .int (iI ((nx : Nat) : Int)), .int (iI (fi)), .int (iI (se)), .int (iI ((le : Nat) : Int)), .ref m7, .int (iI (bp)), .ref m8])), (m1, .inl (cI, 516, .inl (rI (sF cn en ac cu co au (erM (visb (omF au) er ac) er f1 t1 en (k + 1)) ki bs))))] := by first | (rw [erM_t ⟨vis_t (hvk.mp (by assumption)), by omega, by omega⟩]) | (rw [erM_f (fun q => by have q2 := q.2; omega)]) | (rw [erM_f (fun q => (by assumption : ¬ vis _ _ _ _) (hvk.mpr (of_decide_eq_true q.1)))])
                      rw [hww] at hP hD
                      have hl : lv_has ls 8 [(6, .int (iI ((k + 1 : Nat) : Int))), (5, .int (iI ((cnt (visb (omF au) er ac) (k + 1) : Nat) : Int))), (7, .int (iI (bI (vis (omF au) (erM (visb (omF au) er ac) er f1 t1 en k) ac k)))), (0, .ref hm), (1, .int (iI ((f1 : Nat) : Int))), (2, .int (iI ((t1 : Nat) : Int))), (3, .int (iI ((cnt (visb (omF au) er ac) cn : Nat) : Int))), (4, .int (iI ((en : Nat) : Int)))] := lv_chg hl 1 5 rfl (show ((((cnt (visb (omF au) er ac) k) + 1 : Nat) : Int) : Int) = ((cnt (visb (omF au) er ac) (k + 1) : Nat) : Int) from by first | (rw [cnt_vt (hvk.mp (by assumption))]) | (rw [cnt_vf (fun q => (by assumption : ¬ vis _ _ _ _) (hvk.mpr q))]; rfl)) rfl
                      exact ih_57 (k + 1) (by omega) (by first | assumption | (omega)) H locs hP hD hS ls (lv_sub hl [3, 4, 5, 6, 7, 1, 0] rfl)
                  · skip
                    refine r_iconst hx hb dX5_erases_111 ?_
                    refine lv_iload hx hb dX5_erases_112 (lv_at hl 5 rfl) ?_
                    refine r_shl1 hx hb (en) (rfl) (by omega) dX5_erases_114 ?_
                    refine lv_goto (tgt := 119) hx hb dX5_erases_115 (by decide) ?_
                    refine r_ior hx hb ((erM (visb (omF au) er ac) er f1 t1 en k) k) (2 ^ en) (rfl) (rfl) dX5_erases_119 ?_
                    refine r_iastV (g := sF cn en ac cu co au (up (erM (visb (omF au) er ac) er f1 t1 en k) k (((erM (visb (omF au) er ac) er f1 t1 en k) k) ||| (2 ^ en))) ki bs) (v := ((((erM (visb (omF au) er ac) er f1 t1 en k) k) ||| (2 ^ en) : Nat) : Int)) hx hb hK hP hD hS 1 0 rfl rfl (324 + k) (rfl) (by omega) (by decide) (sF_uer (by omega)) dX5_erases_120 (fun H locs hP hD hS => ?_)
                    have hP : va_P D vwCl [(hm, .inr (5, [.ref m1, .ref m2, .ref m3, .int (iI ((pa : Nat) : Int)), .int (iI ((pb : Nat) : Int)), .ref m4, .int (iI ((cp : Nat) : Int)), .ref m5, .int (iI ((ty : Nat) : Int)), .ref m6, .int (iI ((nx : Nat) : Int)), .int (iI (fi)), .int (iI (se)), .int (iI ((le : Nat) : Int)), .ref m7, .int (iI (bp)), .ref m8])), (m1, .inl (cI, 516, .inl (rI (sF cn en ac cu co au (up (erM (visb (omF au) er ac) er f1 t1 en k) k (((erM (visb (omF au) er ac) er f1 t1 en k) k) ||| (2 ^ en))) ki bs))))] H := hP
                    have hD : va_D A [(hm, .inr (5, [.ref m1, .ref m2, .ref m3, .int (iI ((pa : Nat) : Int)), .int (iI ((pb : Nat) : Int)), .ref m4, .int (iI ((cp : Nat) : Int)), .ref m5, .int (iI ((ty : Nat) : Int)), .ref m6, .int (iI ((nx : Nat) : Int)), .int (iI (fi)), .int (iI (se)), .int (iI ((le : Nat) : Int)), .ref m7, .int (iI (bp)), .ref m8])), (m1, .inl (cI, 516, .inl (rI (sF cn en ac cu co au (up (erM (visb (omF au) er ac) er f1 t1 en k) k (((erM (visb (omF au) er ac) er f1 t1 en k) k) ||| (2 ^ en))) ki bs))))] := hD
                    refine lv_iload hx hb dX5_erases_121 (lv_at hl 6 rfl) ?_
                    refine lv_iload hx hb dX5_erases_123 (lv_at hl 0 rfl) ?_
                    refine r_ifb_eq (tgt := 132) hx hb dX5_erases_125 (by decide) (fun c_12 => ?_) (fun c_12 => ?_)
                    · skip
                      exact absurd c_6 c_12
                    · skip
                      refine r_iconst hx hb dX5_erases_128 ?_
                      refine lv_goto (tgt := 133) hx hb dX5_erases_129 (by decide) ?_
                      refine r_iadd (v := (((cnt (visb (omF au) er ac) k) + 1 : Nat) : Int)) hx hb (rfl) dX5_erases_133 ?_
                      refine lv_istore (lv' := [(5, .int (iI (((cnt (visb (omF au) er ac) k) + 1 : Nat) : Int))), (7, .int (iI (bI (vis (omF au) (erM (visb (omF au) er ac) er f1 t1 en k) ac k)))), (0, .ref hm), (1, .int (iI ((f1 : Nat) : Int))), (2, .int (iI ((t1 : Nat) : Int))), (3, .int (iI ((cnt (visb (omF au) er ac) cn : Nat) : Int))), (4, .int (iI ((en : Nat) : Int))), (6, .int (iI ((k : Nat) : Int)))]) hx hb dX5_erases_134 hl (by decide) rfl (fun ls hl => ?_)
                      refine lv_iinc (v := iI ((k + 1 : Nat) : Int)) (lv' := [(6, .int (iI ((k + 1 : Nat) : Int))), (5, .int (iI (((cnt (visb (omF au) er ac) k) + 1 : Nat) : Int))), (7, .int (iI (bI (vis (omF au) (erM (visb (omF au) er ac) er f1 t1 en k) ac k)))), (0, .ref hm), (1, .int (iI ((f1 : Nat) : Int))), (2, .int (iI ((t1 : Nat) : Int))), (3, .int (iI ((cnt (visb (omF au) er ac) cn : Nat) : Int))), (4, .int (iI ((en : Nat) : Int)))]) hx hb dX5_erases_136 hl (k := 7) rfl ((iI_add _ _).trans (ii (rfl))) (by decide) rfl (fun ls hl => ?_)
                      refine lv_goto (tgt := 57) hx hb dX5_erases_139 (by decide) ?_
                      have hww : ([(hm, .inr (5, [.ref m1, .ref m2, .ref m3, .int (iI ((pa : Nat) : Int)), .int (iI ((pb : Nat) : Int)), .ref m4, .int (iI ((cp : Nat) : Int)), .ref m5, .int (iI ((ty : Nat) : Int)), .ref m6, .int (iI ((nx : Nat) : Int)), .int (iI (fi)), .int (iI (se)), .int (iI ((le : Nat) : Int)), .ref m7, .int (iI (bp)), .ref m8])), (m1, .inl (cI, 516, .inl (rI (sF cn en ac cu co au (up (erM (visb (omF au) er ac) er f1 t1 en k) k (((erM (visb (omF au) er ac) er f1 t1 en k) k) ||| (2 ^ en))) ki bs))))] : va_W) = [(hm, .inr (5, [.ref m1, .ref m2, .ref m3, .int (iI ((pa : Nat) : Int)), .int (iI ((pb : Nat) : Int)), .ref m4, .int (iI ((cp : Nat) : Int)), .ref m5, .int (iI ((ty : Nat) : Int)), .ref m6, .int (iI ((nx : Nat) : Int)), .int (iI (fi)), .int (iI (se)), .int (iI ((le : Nat) : Int)), .ref m7, .int (iI (bp)), .ref m8])), (m1, .inl (cI, 516, .inl (rI (sF cn en ac cu co au (erM (visb (omF au) er ac) er f1 t1 en (k + 1)) ki bs))))] := by first | (rw [erM_t ⟨vis_t (hvk.mp (by assumption)), by omega, by omega⟩]) | (rw [erM_f (fun q => by have q2 := q.2; omega)]) | (rw [erM_f (fun q => (by assumption : ¬ vis _ _ _ _) (hvk.mpr (of_decide_eq_true q.1)))])
                      rw [hww] at hP hD
                      have hl : lv_has ls 8 [(6, .int (iI ((k + 1 : Nat) : Int))), (5, .int (iI ((cnt (visb (omF au) er ac) (k + 1) : Nat) : Int))), (7, .int (iI (bI (vis (omF au) (erM (visb (omF au) er ac) er f1 t1 en k) ac k)))), (0, .ref hm), (1, .int (iI ((f1 : Nat) : Int))), (2, .int (iI ((t1 : Nat) : Int))), (3, .int (iI ((cnt (visb (omF au) er ac) cn : Nat) : Int))), (4, .int (iI ((en : Nat) : Int)))] := lv_chg hl 1 5 rfl (show ((((cnt (visb (omF au) er ac) k) + 1 : Nat) : Int) : Int) = ((cnt (visb (omF au) er ac) (k + 1) : Nat) : Int) from by first | (rw [cnt_vt (hvk.mp (by assumption))]) | (rw [cnt_vf (fun q => (by assumption : ¬ vis _ _ _ _) (hvk.mpr q))]; rfl)) rfl
                      exact ih_57 (k + 1) (by omega) (by first | assumption | (omega)) H locs hP hD hS ls (lv_sub hl [3, 4, 5, 6, 7, 1, 0] rfl)
        have hww : ([(hm, .inr (5, [.ref m1, .ref m2, .ref m3, .int (iI ((pa : Nat) : Int)), .int (iI ((pb : Nat) : Int)), .ref m4, .int (iI ((cp : Nat) : Int)), .ref m5, .int (iI ((ty : Nat) : Int)), .ref m6, .int (iI ((nx : Nat) : Int)), .int (iI (fi)), .int (iI (se)), .int (iI ((le : Nat) : Int)), .ref m7, .int (iI (bp)), .ref m8])), (m1, .inl (cI, 516, .inl (rI (sF cn en ac cu co au er ki bs))))] : va_W) = [(hm, .inr (5, [.ref m1, .ref m2, .ref m3, .int (iI ((pa : Nat) : Int)), .int (iI ((pb : Nat) : Int)), .ref m4, .int (iI ((cp : Nat) : Int)), .ref m5, .int (iI ((ty : Nat) : Int)), .ref m6, .int (iI ((nx : Nat) : Int)), .int (iI (fi)), .int (iI (se)), .int (iI ((le : Nat) : Int)), .ref m7, .int (iI (bp)), .ref m8])), (m1, .inl (cI, 516, .inl (rI (sF cn en ac cu co au (erM (visb (omF au) er ac) er f1 t1 en 0) ki bs))))] := by rw [erM_0]
        rw [hww] at hP hD
        have hl : lv_has ls 8 [(6, .int (iI 0)), (5, .int (iI ((cnt (visb (omF au) er ac) 0 : Nat) : Int))), (4, .int (iI ((en : Nat) : Int))), (3, .int (iI ((cnt (visb (omF au) er ac) cn : Nat) : Int))), (0, .ref hm), (1, .int (iI ((f1 : Nat) : Int))), (2, .int (iI ((t1 : Nat) : Int)))] := lv_chg hl 1 5 rfl (show (0 : Int) = ((cnt (visb (omF au) er ac) 0 : Nat) : Int) from by rfl) rfl
        exact loop_57 ((cn - 0) + 1) 0 (by omega) (by first | assumption | (omega)) s.heap [] hP hD hS ls (lv_sub hl [4, 5, 6, 3, 2, 1, 0] rfl)
      · skip
        exfalso; omega
    · skip
      exfalso; omega
