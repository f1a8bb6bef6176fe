set_option maxHeartbeats 4000000 in
set_option maxRecDepth 100000 in
theorem m_appendS_bad (l : Launch) (D : va_G) (cI cB cZ cO : ClassId) (hm : Nat) (m1 : Nat) (m2 : Nat) (m3 : Nat) (m4 : Nat) (m5 : Nat) (m6 : Nat) (m7 : Nat) (m8 : Nat) (pa : Nat) (pb : Nat) (cp : Nat) (ty : Nat) (nx : Nat) (fi : Int) (se : Int) (le : Nat) (bp : Int) (cn : Nat) (en : Nat) (ac : Nat) (cu : Nat) (co : Nat → Nat) (au : Nat → Int) (er : Nat → Nat) (ki : Nat → Nat) (bs : Nat → Int) (x : Int) (rx : rg x) (hbad : x < 0 ∨ 255 < x) : Met l yX5_appendScript wsX5_appendScript ({ frames := 1, cells := 0, slots := 0, locals := 22 }) (va_Pc [.ref hm, .int (iI (x))] (RO D cI cB cZ cO [(hm, .inr (5, [.ref m1, .ref m2, .ref m3, .int (iI ((pa : Nat) : Int)), .int (iI ((pb : Nat) : Int)), .ref m4, .int (iI ((cp : Nat) : Int)), .ref m5, .int (iI ((ty : Nat) : Int)), .ref m6, .int (iI ((nx : Nat) : Int)), .int (iI (fi)), .int (iI (se)), .int (iI ((le : Nat) : Int)), .ref m7, .int (iI (bp)), .ref m8])), (m1, .inl (cI, 516, .inl (rI (sF cn en ac cu co au er ki bs))))])) (QO (-1)) 0 0 (fun _ => False) := by
  refine startO (cc := cX5_appendScript) (maxL := 2) (ret := (some .int)) (by decide) rfl (Nat.le_of_ble_eq_true rfl) ?_
  intro p e s m below meth c S hr hlocks hE hP ls hl
  have hx := S.1
  have hb := S.2.1
  have hown := S.2.2.2.1
  have hts := S.2.2.2.2
  have hK := hE.1
  have hl : lv_has ls 2 [(0, .ref hm), (1, .int (iI (x)))] := hl
  refine lv_iload_n hx hb dX5_appendScript_0 rfl (lv_at hl 1 rfl) ?_
  refine r_iconst hx hb dX5_appendScript_1 ?_
  refine r_sipush hx hb dX5_appendScript_2 (by decide) ?_
  rw [show (0 : Int) = (0) from by omega]
  rw [show (255 : Int) = (255) from by omega]
  refine callSO (n := 3) (As := [.int (iI (x)), .int (iI (0)), .int (iI (255))]) (rest := []) (wc := []) S (m_in l D cI cB cZ cO x 0 255 (by first | assumption | (omega)) (by first | assumption | (omega)) (by first | assumption | (omega))) gX5_appendScript_X5_in rfl ⟨rfl, rfl⟩ (by decide +kernel) ⟨Nat.le_of_ble_eq_true rfl, Nat.le_of_ble_eq_true rfl⟩ hE hP [] rfl rfl hl.1 rfl (Nat.le_of_ble_eq_true rfl) dX5_appendScript_5 ⟨Nat.le_of_ble_eq_true rfl, Nat.le_of_ble_eq_true rfl⟩ ?_
  refine r_ifb_ne (tgt := 13) hx hb dX5_appendScript_8 (by decide) (fun c_1 => ?_) (fun c_1 => ?_)
  · skip
    exfalso; omega
  · skip
    refine r_iconst hx hb dX5_appendScript_11 ?_
    exact r_iretO hx hb hr hlocks (rfl) dX5_appendScript_12

theorem kX5_appendScript_140 : Cond.fieldLink RX5 140 "PricedUndoModel" "typed" "I" ∈ wsX5_appendScript := List.mem_of_getElem? (i := 1) (by decide +kernel)
theorem nX5_appendScript_X5 : ∀ w ∈ u_ws RX5 TX5 17, w ∈ wsX5_appendScript := in_lay 7 (by decide +kernel)
set_option maxHeartbeats 4000000 in
set_option maxRecDepth 100000 in
theorem m_appendS_full (l : Launch) (D : va_G) (cI cB cZ cO : ClassId) (hm : Nat) (m1 : Nat) (m2 : Nat) (m3 : Nat) (m4 : Nat) (m5 : Nat) (m6 : Nat) (m7 : Nat) (m8 : Nat) (pa : Nat) (pb : Nat) (cp : Nat) (ty : Nat) (nx : Nat) (fi : Int) (se : Int) (le : Nat) (bp : Int) (cn : Nat) (en : Nat) (ac : Nat) (cu : Nat) (co : Nat → Nat) (au : Nat → Int) (er : Nat → Nat) (ki : Nat → Nat) (bs : Nat → Int) (x : Int) (rx : rg x) (hx : 0 ≤ x ∧ x ≤ 255) (hty : ty = 80) : Met l yX5_appendScript wsX5_appendScript ({ frames := 1, cells := 0, slots := 0, locals := 22 }) (va_Pc [.ref hm, .int (iI (x))] (RO D cI cB cZ cO [(hm, .inr (5, [.ref m1, .ref m2, .ref m3, .int (iI ((pa : Nat) : Int)), .int (iI ((pb : Nat) : Int)), .ref m4, .int (iI ((cp : Nat) : Int)), .ref m5, .int (iI ((ty : Nat) : Int)), .ref m6, .int (iI ((nx : Nat) : Int)), .int (iI (fi)), .int (iI (se)), .int (iI ((le : Nat) : Int)), .ref m7, .int (iI (bp)), .ref m8])), (m1, .inl (cI, 516, .inl (rI (sF cn en ac cu co au er ki bs))))])) (QO (-3)) 0 0 (fun _ => False) := by
  refine startO (cc := cX5_appendScript) (maxL := 2) (ret := (some .int)) (by decide) rfl (Nat.le_of_ble_eq_true rfl) ?_
  intro p e s m below meth c S hr hlocks hE hP ls hl
  have hx := S.1
  have hb := S.2.1
  have hown := S.2.2.2.1
  have hts := S.2.2.2.2
  have hK := hE.1
  have hl : lv_has ls 2 [(0, .ref hm), (1, .int (iI (x)))] := hl
  refine lv_iload_n hx hb dX5_appendScript_0 rfl (lv_at hl 1 rfl) ?_
  refine r_iconst hx hb dX5_appendScript_1 ?_
  refine r_sipush hx hb dX5_appendScript_2 (by decide) ?_
  rw [show (0 : Int) = (0) from by omega]
  rw [show (255 : Int) = (255) from by omega]
  refine callSO (n := 3) (As := [.int (iI (x)), .int (iI (0)), .int (iI (255))]) (rest := []) (wc := []) S (m_in l D cI cB cZ cO x 0 255 (by first | assumption | (omega)) (by first | assumption | (omega)) (by first | assumption | (omega))) gX5_appendScript_X5_in rfl ⟨rfl, rfl⟩ (by decide +kernel) ⟨Nat.le_of_ble_eq_true rfl, Nat.le_of_ble_eq_true rfl⟩ hE hP [] rfl rfl hl.1 rfl (Nat.le_of_ble_eq_true rfl) dX5_appendScript_5 ⟨Nat.le_of_ble_eq_true rfl, Nat.le_of_ble_eq_true rfl⟩ ?_
  refine r_ifb_ne (tgt := 13) hx hb dX5_appendScript_8 (by decide) (fun c_1 => ?_) (fun c_1 => ?_)
  · skip
    refine lv_aload_n hx hb dX5_appendScript_13 rfl (lv_at hl 0 rfl) ?_
    refine va_get (D := D) (ci := 5) (v := .int (iI ((ty : Nat) : Int))) (C := RX5) (T := TX5) (N := 17) hx hb hts nX5_appendScript_X5 hown hK hP 0 rfl rfl 8 (by decide) (hts _ kX5_appendScript_140) (fun _ h9 => h9) rfl dX5_appendScript_14 ?_
    refine r_bipush hx hb dX5_appendScript_17 (by decide) ?_
    refine r_icmp_ne (tgt := 25) hx hb (by omega) (⟨by decide, by decide⟩) dX5_appendScript_19 (by decide) (fun c_2 => ?_) (fun c_2 => ?_)
    · skip
      exfalso; omega
    · skip
      refine r_bipush hx hb dX5_appendScript_22 (by decide) ?_
      exact r_iretO hx hb hr hlocks (rfl) dX5_appendScript_24
  · skip
    exfalso; omega

theorem kX5_appendScript_31 : Cond.fieldLink RX5 31 "PricedUndoModel" "script" "[B" ∈ wsX5_appendScript := List.mem_of_getElem? (i := 2) (by decide +kernel)
set_option maxHeartbeats 4000000 in
set_option maxRecDepth 100000 in
theorem m_appendS (l : Launch) (D : va_G) (cI cB cZ cO : ClassId) (sz : Nat) (hm : Nat) (m1 : Nat) (m2 : Nat) (m3 : Nat) (m4 : Nat) (m5 : Nat) (m6 : Nat) (m7 : Nat) (m8 : Nat) (pa : Nat) (pb : Nat) (cp : Nat) (ty : Nat) (nx : Nat) (fi : Int) (se : Int) (le : Nat) (bp : Int) (cn : Nat) (en : Nat) (ac : Nat) (cu : Nat) (co : Nat → Nat) (au : Nat → Int) (er : Nat → Nat) (ki : Nat → Nat) (bs : Nat → Int) (sc : Nat → Nat) (x1 : Nat) (hx : x1 < 256) (hty : ty < 80) : Met l yX5_appendScript wsX5_appendScript ({ frames := 1, cells := 0, slots := 0, locals := 22 }) (va_Pc [.ref hm, .int (iI ((x1 : Nat) : Int))] (RW D cI cB cZ cO sz [(hm, .inr (5, [.ref m1, .ref m2, .ref m3, .int (iI ((pa : Nat) : Int)), .int (iI ((pb : Nat) : Int)), .ref m4, .int (iI ((cp : Nat) : Int)), .ref m5, .int (iI ((ty : Nat) : Int)), .ref m6, .int (iI ((nx : Nat) : Int)), .int (iI (fi)), .int (iI (se)), .int (iI ((le : Nat) : Int)), .ref m7, .int (iI (bp)), .ref m8])), (m1, .inl (cI, 516, .inl (rI (sF cn en ac cu co au er ki bs)))), (m5, .inl (cB, 80, .inl (rI (fun j => sby (sc j)))))])) (QX D (S := Unit) (fun u => some (.int (iI ((ty + 1 : Nat) : Int)))) (fun u => True) (fun u => [(hm, .inr (5, [.ref m1, .ref m2, .ref m3, .int (iI ((pa : Nat) : Int)), .int (iI ((pb : Nat) : Int)), .ref m4, .int (iI ((cp : Nat) : Int)), .ref m5, .int (iI ((ty + 1 : Nat) : Int)), .ref m6, .int (iI ((nx : Nat) : Int)), .int (iI (fi)), .int (iI (se)), .int (iI ((le : Nat) : Int)), .ref m7, .int (iI (bp)), .ref m8])), (m1, .inl (cI, 516, .inl (rI (sF cn en ac cu co au er ki bs)))), (m5, .inl (cB, 80, .inl (rI (fun j => sby ((up sc ty (x1)) j)))))]) (va_A [(hm, .inr (5, [.ref m1, .ref m2, .ref m3, .int (iI ((pa : Nat) : Int)), .int (iI ((pb : Nat) : Int)), .ref m4, .int (iI ((cp : Nat) : Int)), .ref m5, .int (iI ((ty : Nat) : Int)), .ref m6, .int (iI ((nx : Nat) : Int)), .int (iI (fi)), .int (iI (se)), .int (iI ((le : Nat) : Int)), .ref m7, .int (iI (bp)), .ref m8])), (m1, .inl (cI, 516, .inl (rI (sF cn en ac cu co au er ki bs)))), (m5, .inl (cB, 80, .inl (rI (fun j => sby (sc j)))))] sz)) 0 0 (va_A [(hm, .inr (5, [.ref m1, .ref m2, .ref m3, .int (iI ((pa : Nat) : Int)), .int (iI ((pb : Nat) : Int)), .ref m4, .int (iI ((cp : Nat) : Int)), .ref m5, .int (iI ((ty : Nat) : Int)), .ref m6, .int (iI ((nx : Nat) : Int)), .int (iI (fi)), .int (iI (se)), .int (iI ((le : Nat) : Int)), .ref m7, .int (iI (bp)), .ref m8])), (m1, .inl (cI, 516, .inl (rI (sF cn en ac cu co au er ki bs)))), (m5, .inl (cB, 80, .inl (rI (fun j => sby (sc j)))))] sz) := by
  refine startW (cc := cX5_appendScript) (maxL := 2) (ret := (some .int)) (by decide) rfl (Nat.le_of_ble_eq_true rfl) ?_
  intro p e s m below meth c S hr hlocks hE hP A hD hA hS ls hl
  have hx := S.1
  have hb := S.2.1
  have hown := S.2.2.2.1
  have hts := S.2.2.2.2
  have hK := hE.1
  have hl : lv_has ls 2 [(0, .ref hm), (1, .int (iI ((x1 : Nat) : Int)))] := hl
  refine lv_iload_n hx hb dX5_appendScript_0 rfl (lv_at hl 1 rfl) ?_
  refine r_iconst hx hb dX5_appendScript_1 ?_
  refine r_sipush hx hb dX5_appendScript_2 (by decide) ?_
  rw [show (0 : Int) = (0) from by first | omega | exact sby_r (by omega)]
  rw [show (255 : Int) = (255) from by first | omega | exact sby_r (by omega)]
  refine callSO (n := 3) (As := [.int (iI ((x1 : Nat) : Int)), .int (iI (0)), .int (iI (255))]) (rest := []) (wc := []) S (m_in l D cI cB cZ cO (((x1 : Nat) : Int)) 0 255 (by first | assumption | (first | omega | exact sby_r (by omega))) (by first | assumption | (first | omega | exact sby_r (by omega))) (by first | assumption | (first | omega | exact sby_r (by omega)))) gX5_appendScript_X5_in rfl ⟨rfl, rfl⟩ (by decide +kernel) ⟨Nat.le_of_ble_eq_true rfl, Nat.le_of_ble_eq_true rfl⟩ hE hP [] rfl rfl hl.1 rfl (Nat.le_of_ble_eq_true rfl) dX5_appendScript_5 ⟨Nat.le_of_ble_eq_true rfl, Nat.le_of_ble_eq_true rfl⟩ ?_
  refine r_ifb_ne (tgt := 13) hx hb dX5_appendScript_8 (by decide) (fun c_1 => ?_) (fun c_1 => ?_)
  · skip
    refine lv_aload_n hx hb dX5_appendScript_13 rfl (lv_at hl 0 rfl) ?_
    refine va_get (D := D) (ci := 5) (v := .int (iI ((ty : Nat) : Int))) (C := RX5) (T := TX5) (N := 17) hx hb hts nX5_appendScript_X5 hown hK hP 0 rfl rfl 8 (by decide) (hts _ kX5_appendScript_140) (fun _ h9 => h9) rfl dX5_appendScript_14 ?_
    refine r_bipush hx hb dX5_appendScript_17 (by decide) ?_
    refine r_icmp_ne (tgt := 25) hx hb (by first | omega | exact sby_r (by omega)) (⟨by decide, by decide⟩) dX5_appendScript_19 (by decide) (fun c_2 => ?_) (fun c_2 => ?_)
    · skip
      refine lv_aload_n hx hb dX5_appendScript_25 rfl (lv_at hl 0 rfl) ?_
      refine va_get (D := D) (ci := 5) (v := .ref m5) (C := RX5) (T := TX5) (N := 17) hx hb hts nX5_appendScript_X5 hown hK hP 0 rfl rfl 7 (by decide) (hts _ kX5_appendScript_31) (fun _ h9 => h9) rfl dX5_appendScript_26 ?_
      refine lv_aload_n hx hb dX5_appendScript_29 rfl (lv_at hl 0 rfl) ?_
      refine va_get (D := D) (ci := 5) (v := .int (iI ((ty : Nat) : Int))) (C := RX5) (T := TX5) (N := 17) hx hb hts nX5_appendScript_X5 hown hK hP 0 rfl rfl 8 (by decide) (hts _ kX5_appendScript_140) (fun _ h9 => h9) rfl dX5_appendScript_30 ?_
      refine lv_iload_n hx hb dX5_appendScript_33 rfl (lv_at hl 1 rfl) ?_
      refine lv_i2b (v := iI (sby x1)) hx hb dX5_appendScript_34 (i2b_sby (by first | omega | exact sby_r (by omega))) ?_
      refine r_bast (v := (sby x1)) hx hb hK hP hD hS 2 1 rfl rfl (ty) (rfl) (by first | omega | exact sby_r (by omega)) (by decide) (nar_b (by first | omega | exact sby_r (by omega))) dX5_appendScript_35 (fun H locs hP hD hS => ?_)
      have hP : va_P D vwCl [(hm, .inr (5, [.ref m1, .ref m2, .ref m3, .int (iI ((pa : Nat) : Int)), .int (iI ((pb : Nat) : Int)), .ref m4, .int (iI ((cp : Nat) : Int)), .ref m5, .int (iI ((ty : Nat) : Int)), .ref m6, .int (iI ((nx : Nat) : Int)), .int (iI (fi)), .int (iI (se)), .int (iI ((le : Nat) : Int)), .ref m7, .int (iI (bp)), .ref m8])), (m1, .inl (cI, 516, .inl (rI (sF cn en ac cu co au er ki bs)))), (m5, .inl (cB, 80, .inl (rI (up (fun j => sby (sc j)) ty (sby x1)))))] H := hP
      have hD : va_D A [(hm, .inr (5, [.ref m1, .ref m2, .ref m3, .int (iI ((pa : Nat) : Int)), .int (iI ((pb : Nat) : Int)), .ref m4, .int (iI ((cp : Nat) : Int)), .ref m5, .int (iI ((ty : Nat) : Int)), .ref m6, .int (iI ((nx : Nat) : Int)), .int (iI (fi)), .int (iI (se)), .int (iI ((le : Nat) : Int)), .ref m7, .int (iI (bp)), .ref m8])), (m1, .inl (cI, 516, .inl (rI (sF cn en ac cu co au er ki bs)))), (m5, .inl (cB, 80, .inl (rI (up (fun j => sby (sc j)) ty (sby x1)))))] := hD
      refine lv_aload_n hx hb dX5_appendScript_36 rfl (lv_at hl 0 rfl) ?_
      refine lv_dup hx hb dX5_appendScript_37 rfl ?_
      refine va_get (D := D) (ci := 5) (v := .int (iI ((ty : Nat) : Int))) (C := RX5) (T := TX5) (N := 17) hx hb hts nX5_appendScript_X5 hown hK hP 0 rfl rfl 8 (by decide) (hts _ kX5_appendScript_140) (fun _ h9 => h9) rfl dX5_appendScript_38 ?_
      refine r_iconst hx hb dX5_appendScript_41 ?_
      refine r_iadd (v := ((ty + 1 : Nat) : Int)) hx hb (rfl) dX5_appendScript_42 ?_
      refine va_put (D := D) (ci := 5) (v := .int (iI ((ty + 1 : Nat) : Int))) (ty := .int) (C := RX5) (T := TX5) (N := 17) hx hb hts nX5_appendScript_X5 tyX5 tyX5_ok nmX5 hown hK hP hD hS 0 rfl rfl 8 (by decide) (hts _ kX5_appendScript_140) (fun _ h9 => h9) rfl (by decide +kernel) rfl rfl (Nat.le_of_ble_eq_true rfl) dX5_appendScript_43 (fun H locs hP hD hS => ?_)
      have hP : va_P D vwCl [(hm, .inr (5, [.ref m1, .ref m2, .ref m3, .int (iI ((pa : Nat) : Int)), .int (iI ((pb : Nat) : Int)), .ref m4, .int (iI ((cp : Nat) : Int)), .ref m5, .int (iI ((ty + 1 : Nat) : Int)), .ref m6, .int (iI ((nx : Nat) : Int)), .int (iI (fi)), .int (iI (se)), .int (iI ((le : Nat) : Int)), .ref m7, .int (iI (bp)), .ref m8])), (m1, .inl (cI, 516, .inl (rI (sF cn en ac cu co au er ki bs)))), (m5, .inl (cB, 80, .inl (rI (up (fun j => sby (sc j)) ty (sby x1)))))] H := hP
      have hD : va_D A [(hm, .inr (5, [.ref m1, .ref m2, .ref m3, .int (iI ((pa : Nat) : Int)), .int (iI ((pb : Nat) : Int)), .ref m4, .int (iI ((cp : Nat) : Int)), .ref m5, .int (iI ((ty + 1 : Nat) : Int)), .ref m6, .int (iI ((nx : Nat) : Int)), .int (iI (fi)), .int (iI (se)), .int (iI ((le : Nat) : Int)), .ref m7, .int (iI (bp)), .ref m8])), (m1, .inl (cI, 516, .inl (rI (sF cn en ac cu co au er ki bs)))), (m5, .inl (cB, 80, .inl (rI (up (fun j => sby (sc j)) ty (sby x1)))))] := hD
      refine lv_aload_n hx hb dX5_appendScript_46 rfl (lv_at hl 0 rfl) ?_
      refine va_get (D := D) (ci := 5) (v := .int (iI ((ty + 1 : Nat) : Int))) (C := RX5) (T := TX5) (N := 17) hx hb hts nX5_appendScript_X5 hown hK hP 0 rfl rfl 8 (by decide) (hts _ kX5_appendScript_140) (fun _ h9 => h9) rfl dX5_appendScript_47 ?_
      exact r_iretX hx hb hr hlocks hP hD hS () (rfl) (trivial) (by rw [up_sby]) dX5_appendScript_50
    · skip
      exfalso; omega
  · skip
    exfalso; omega

theorem kX5_clearScript_140 : Cond.fieldLink RX5 140 "PricedUndoModel" "typed" "I" ∈ wsX5_clearScript := List.mem_of_getElem? (i := 1) (by decide +kernel)
theorem nX5_clearScript_X5 : ∀ w ∈ u_ws RX5 TX5 17, w ∈ wsX5_clearScript := in_lay 2 (by decide +kernel)
set_option maxHeartbeats 4000000 in
set_option maxRecDepth 100000 in
theorem m_clearScript (l : Launch) (D : va_G) (cI cB cZ cO : ClassId) (sz : Nat) (hm : Nat) (m1 : Nat) (m2 : Nat) (m3 : Nat) (m4 : Nat) (m5 : Nat) (m6 : Nat) (m7 : Nat) (m8 : Nat) (pa : Nat) (pb : Nat) (cp : Nat) (ty : Nat) (nx : Nat) (fi : Int) (se : Int) (le : Nat) (bp : Int) (cn : Nat) (en : Nat) (ac : Nat) (cu : Nat) (co : Nat → Nat) (au : Nat → Int) (er : Nat → Nat) (ki : Nat → Nat) (bs : Nat → Int)  : Met l yX5_clearScript wsX5_clearScript ({ frames := 0, cells := 0, slots := 0, locals := 0 }) (va_Pc [.ref hm] (RW D cI cB cZ cO sz [(hm, .inr (5, [.ref m1, .ref m2, .ref m3, .int (iI ((pa : Nat) : Int)), .int (iI ((pb : Nat) : Int)), .ref m4, .int (iI ((cp : Nat) : Int)), .ref m5, .int (iI ((ty : Nat) : Int)), .ref m6, .int (iI ((nx : Nat) : Int)), .int (iI (fi)), .int (iI (se)), .int (iI ((le : Nat) : Int)), .ref m7, .int (iI (bp)), .ref m8])), (m1, .inl (cI, 516, .inl (rI (sF cn en ac cu co au er ki bs))))])) (QX D (S := Unit) (fun u => some (.int (iI ((ty : Nat) : Int)))) (fun u => True) (fun u => [(hm, .inr (5, [.ref m1, .ref m2, .ref m3, .int (iI ((pa : Nat) : Int)), .int (iI ((pb : Nat) : Int)), .ref m4, .int (iI ((cp : Nat) : Int)), .ref m5, .int (iI 0), .ref m6, .int (iI ((nx : Nat) : Int)), .int (iI (fi)), .int (iI (se)), .int (iI ((le : Nat) : Int)), .ref m7, .int (iI (bp)), .ref m8])), (m1, .inl (cI, 516, .inl (rI (sF cn en ac cu co au er ki bs))))]) (va_A [(hm, .inr (5, [.ref m1, .ref m2, .ref m3, .int (iI ((pa : Nat) : Int)), .int (iI ((pb : Nat) : Int)), .ref m4, .int (iI ((cp : Nat) : Int)), .ref m5, .int (iI ((ty : Nat) : Int)), .ref m6, .int (iI ((nx : Nat) : Int)), .int (iI (fi)), .int (iI (se)), .int (iI ((le : Nat) : Int)), .ref m7, .int (iI (bp)), .ref m8])), (m1, .inl (cI, 516, .inl (rI (sF cn en ac cu co au er ki bs))))] sz)) 0 0 (va_A [(hm, .inr (5, [.ref m1, .ref m2, .ref m3, .int (iI ((pa : Nat) : Int)), .int (iI ((pb : Nat) : Int)), .ref m4, .int (iI ((cp : Nat) : Int)), .ref m5, .int (iI ((ty : Nat) : Int)), .ref m6, .int (iI ((nx : Nat) : Int)), .int (iI (fi)), .int (iI (se)), .int (iI ((le : Nat) : Int)), .ref m7, .int (iI (bp)), .ref m8])), (m1, .inl (cI, 516, .inl (rI (sF cn en ac cu co au er ki bs))))] sz) := by
  refine startW (cc := cX5_clearScript) (maxL := 2) (ret := (some .int)) (by decide) rfl (Nat.le_of_ble_eq_true rfl) ?_
  intro p e s m below meth c S hr hlocks hE hP A hD hA hS ls hl
  have hx := S.1
  have hb := S.2.1
  have hown := S.2.2.2.1
  have hts := S.2.2.2.2
  have hK := hE.1
  have hl : lv_has ls 2 [(0, .ref hm)] := hl
  refine lv_aload_n hx hb dX5_clearScript_0 rfl (lv_at hl 0 rfl) ?_
  refine va_get (D := D) (ci := 5) (v := .int (iI ((ty : Nat) : Int))) (C := RX5) (T := TX5) (N := 17) hx hb hts nX5_clearScript_X5 hown hK hP 0 rfl rfl 8 (by decide) (hts _ kX5_clearScript_140) (fun _ h9 => h9) rfl dX5_clearScript_1 ?_
  refine lv_istore_n (lv' := [(1, .int (iI ((ty : Nat) : Int))), (0, .ref hm)]) hx hb dX5_clearScript_4 rfl hl (by decide) rfl (fun ls hl => ?_)
  refine lv_aload_n hx hb dX5_clearScript_5 rfl (lv_at hl 1 rfl) ?_
  refine r_iconst hx hb dX5_clearScript_6 ?_
  refine va_put (D := D) (ci := 5) (v := .int (iI 0)) (ty := .int) (C := RX5) (T := TX5) (N := 17) hx hb hts nX5_clearScript_X5 tyX5 tyX5_ok nmX5 hown hK hP hD hS 0 rfl rfl 8 (by decide) (hts _ kX5_clearScript_140) (fun _ h9 => h9) rfl (by decide +kernel) rfl rfl (Nat.le_of_ble_eq_true rfl) dX5_clearScript_7 (fun H locs hP hD hS => ?_)
  have hP : va_P D vwCl [(hm, .inr (5, [.ref m1, .ref m2, .ref m3, .int (iI ((pa : Nat) : Int)), .int (iI ((pb : Nat) : Int)), .ref m4, .int (iI ((cp : Nat) : Int)), .ref m5, .int (iI 0), .ref m6, .int (iI ((nx : Nat) : Int)), .int (iI (fi)), .int (iI (se)), .int (iI ((le : Nat) : Int)), .ref m7, .int (iI (bp)), .ref m8])), (m1, .inl (cI, 516, .inl (rI (sF cn en ac cu co au er ki bs))))] H := hP
  have hD : va_D A [(hm, .inr (5, [.ref m1, .ref m2, .ref m3, .int (iI ((pa : Nat) : Int)), .int (iI ((pb : Nat) : Int)), .ref m4, .int (iI ((cp : Nat) : Int)), .ref m5, .int (iI 0), .ref m6, .int (iI ((nx : Nat) : Int)), .int (iI (fi)), .int (iI (se)), .int (iI ((le : Nat) : Int)), .ref m7, .int (iI (bp)), .ref m8])), (m1, .inl (cI, 516, .inl (rI (sF cn en ac cu co au er ki bs))))] := hD
  refine lv_iload_n hx hb dX5_clearScript_10 rfl (lv_at hl 0 rfl) ?_
  exact r_iretX hx hb hr hlocks hP hD hS () (rfl) (trivial) rfl dX5_clearScript_11

theorem kX5_here_143 : Cond.fieldLink RX5 143 "PricedUndoModel" "next" "I" ∈ wsX5_here := List.mem_of_getElem? (i := 1) (by decide +kernel)
theorem nX5_here_X5 : ∀ w ∈ u_ws RX5 TX5 17, w ∈ wsX5_here := in_lay 4 (by decide +kernel)
theorem kX5_here_140 : Cond.fieldLink RX5 140 "PricedUndoModel" "typed" "I" ∈ wsX5_here := List.mem_of_getElem? (i := 2) (by decide +kernel)
theorem kX5_here_31 : Cond.fieldLink RX5 31 "PricedUndoModel" "script" "[B" ∈ wsX5_here := List.mem_of_getElem? (i := 3) (by decide +kernel)
set_option maxHeartbeats 4000000 in
set_option maxRecDepth 100000 in
theorem m_here (l : Launch) (D : va_G) (cI cB cZ cO : ClassId) (hm : Nat) (m1 : Nat) (m2 : Nat) (m3 : Nat) (m4 : Nat) (m5 : Nat) (m6 : Nat) (m7 : Nat) (m8 : Nat) (pa : Nat) (pb : Nat) (cp : Nat) (ty : Nat) (nx : Nat) (fi : Int) (se : Int) (le : Nat) (bp : Int) (cn : Nat) (en : Nat) (ac : Nat) (cu : Nat) (co : Nat → Nat) (au : Nat → Int) (er : Nat → Nat) (ki : Nat → Nat) (bs : Nat → Int) (sc : Nat → Nat) (hty : ty ≤ 80) (hsc : ∀ k, sc k < 256) (hnx : nx < 65536) : Met l yX5_here wsX5_here ({ frames := 0, cells := 0, slots := 0, locals := 0 }) (va_Pc [.ref hm] (RO D cI cB cZ cO [(hm, .inr (5, [.ref m1, .ref m2, .ref m3, .int (iI ((pa : Nat) : Int)), .int (iI ((pb : Nat) : Int)), .ref m4, .int (iI ((cp : Nat) : Int)), .ref m5, .int (iI ((ty : Nat) : Int)), .ref m6, .int (iI ((nx : Nat) : Int)), .int (iI (fi)), .int (iI (se)), .int (iI ((le : Nat) : Int)), .ref m7, .int (iI (bp)), .ref m8])), (m1, .inl (cI, 516, .inl (rI (sF cn en ac cu co au er ki bs)))), (m5, .inl (cB, 80, .inl (rI (fun j => sby (sc j)))))])) (QO (hre sc ty nx)) 0 0 (fun _ => False) := by
  refine startO (cc := cX5_here) (maxL := 1) (ret := (some .int)) (by decide) rfl (Nat.le_of_ble_eq_true rfl) ?_
  intro p e s m below meth c S hr hlocks hE hP ls hl
  have hx := S.1
  have hb := S.2.1
  have hown := S.2.2.2.1
  have hts := S.2.2.2.2
  have hK := hE.1
  have hl : lv_has ls 1 [(0, .ref hm)] := hl
  refine lv_aload_n hx hb dX5_here_0 rfl (lv_at hl 0 rfl) ?_
  refine va_get (D := D) (ci := 5) (v := .int (iI ((nx : Nat) : Int))) (C := RX5) (T := TX5) (N := 17) hx hb hts nX5_here_X5 hown hK hP 0 rfl rfl 10 (by decide) (hts _ kX5_here_143) (fun _ h9 => h9) rfl dX5_here_1 ?_
  refine lv_aload_n hx hb dX5_here_4 rfl (lv_at hl 0 rfl) ?_
  refine va_get (D := D) (ci := 5) (v := .int (iI ((ty : Nat) : Int))) (C := RX5) (T := TX5) (N := 17) hx hb hts nX5_here_X5 hown hK hP 0 rfl rfl 8 (by decide) (hts _ kX5_here_140) (fun _ h9 => h9) rfl dX5_here_5 ?_
  refine r_icmp_ge (tgt := 27) hx hb (by first | omega | exact hsc _ | (unfold hre; rw [if_pos (by omega)]) | (unfold hre; rw [if_neg (by omega)])) (by first | omega | exact hsc _ | (unfold hre; rw [if_pos (by omega)]) | (unfold hre; rw [if_neg (by omega)])) dX5_here_8 (by decide) (fun c_1 => ?_) (fun c_1 => ?_)
  · skip
    refine r_iconst hx hb dX5_here_27 ?_
    exact r_iretO hx hb hr hlocks (by first | omega | exact hsc _ | (unfold hre; rw [if_pos (by omega)]) | (unfold hre; rw [if_neg (by omega)])) dX5_here_28
  · skip
    refine lv_aload_n hx hb dX5_here_11 rfl (lv_at hl 0 rfl) ?_
    refine va_get (D := D) (ci := 5) (v := .ref m5) (C := RX5) (T := TX5) (N := 17) hx hb hts nX5_here_X5 hown hK hP 0 rfl rfl 7 (by decide) (hts _ kX5_here_31) (fun _ h9 => h9) rfl dX5_here_12 ?_
    refine lv_aload_n hx hb dX5_here_15 rfl (lv_at hl 0 rfl) ?_
    refine va_get (D := D) (ci := 5) (v := .int (iI ((nx : Nat) : Int))) (C := RX5) (T := TX5) (N := 17) hx hb hts nX5_here_X5 hown hK hP 0 rfl rfl 10 (by decide) (hts _ kX5_here_143) (fun _ h9 => h9) rfl dX5_here_16 ?_
    refine r_bald hx hb hK hP 2 1 rfl rfl (nx) (rfl) (by first | omega | exact hsc _ | (unfold hre; rw [if_pos (by omega)]) | (unfold hre; rw [if_neg (by omega)])) (by decide) dX5_here_19 ?_
    refine r_sipush hx hb dX5_here_20 (by decide) ?_
    refine r_by255 hx hb (sc nx) rfl (by first | omega | exact hsc _ | (unfold hre; rw [if_pos (by omega)]) | (unfold hre; rw [if_neg (by omega)])) dX5_here_23 ?_
    refine lv_goto (tgt := 28) hx hb dX5_here_24 (by decide) ?_
    exact r_iretO hx hb hr hlocks (by first | omega | exact hsc _ | (unfold hre; rw [if_pos (by omega)]) | (unfold hre; rw [if_neg (by omega)])) dX5_here_28

set_option maxHeartbeats 4000000 in
set_option maxRecDepth 100000 in
theorem p_appendS_bad (l : Launch) (D : va_G) (cI cB cZ cO : ClassId) (xp : Nat) (xc : Nat) (xs : Nat) (xq : Nat) (xl : Nat) (ag : Nat) (di : Nat) (h : Nat) (a1 : Nat) (a2 : Nat) (a3 : Nat) (a4 : Nat) (a5 : Nat) (tt : Nat) (ln : Nat) (ed : Nat) (es : Nat) (ac : Nat) (cu : Nat) (x : Int) (rx : rg x) (hbad : x < 0 ∨ 255 < x) : Met l yX4_appendScript wsX4_appendScript ({ frames := 0, cells := 0, slots := 0, locals := 0 }) (va_Pc [.ref xp, .int (iI (x))] (RO D cI cB cZ cO [(xp, .inr (4, [.ref xc, .ref xs, .ref h, .ref xq, .ref xl, .int (iI ((ag : Nat) : Int)), .int (iI ((di : Nat) : Int))])), (h, .inr (0, [.ref a1, .ref a2, .ref a3, .int (iI ((tt : Nat) : Int)), .ref a4, .int (iI ((ln : Nat) : Int)), .ref a5, .int (iI ((ed : Nat) : Int)), .int (iI ((es : Nat) : Int)), .int (iI ((ac : Nat) : Int)), .int (iI ((cu : Nat) : Int))]))])) (QO (-1)) 0 0 (fun _ => False) := by
  refine startO (cc := cX4_appendScript) (maxL := 2) (ret := (some .int)) (by decide) rfl (Nat.le_of_ble_eq_true rfl) ?_
  intro p e s m below meth c S hr hlocks hE hP ls hl
  have hx := S.1
  have hb := S.2.1
  have hown := S.2.2.2.1
  have hts := S.2.2.2.2
  have hK := hE.1
  have hl : lv_has ls 2 [(0, .ref xp), (1, .int (iI (x)))] := hl
  refine lv_iload_n hx hb dX4_appendScript_0 rfl (lv_at hl 1 rfl) ?_
  refine r_if_lt (tgt := 11) hx hb (by omega) dX4_appendScript_1 (by decide) (fun c_1 => ?_) (fun c_1 => ?_)
  · skip
    refine r_iconst hx hb dX4_appendScript_11 ?_
    exact r_iretO hx hb hr hlocks (rfl) dX4_appendScript_12
  · skip
    refine lv_iload_n hx hb dX4_appendScript_4 rfl (lv_at hl 1 rfl) ?_
    refine r_sipush hx hb dX4_appendScript_5 (by decide) ?_
    refine r_icmp_le (tgt := 13) hx hb (by omega) (⟨by decide, by decide⟩) dX4_appendScript_8 (by decide) (fun c_2 => ?_) (fun c_2 => ?_)
    · skip
      exfalso; omega
    · skip
      refine r_iconst hx hb dX4_appendScript_11 ?_
      exact r_iretO hx hb hr hlocks (rfl) dX4_appendScript_12

theorem kX4_appendScript_21 : Cond.fieldLink RX4 21 "PricedUndo" "script" "LPricedUndo$Script;" ∈ wsX4_appendScript := List.mem_of_getElem? (i := 1) (by decide +kernel)
theorem nX4_appendScript_X4 : ∀ w ∈ u_ws RX4 TX4 7, w ∈ wsX4_appendScript := in_lay 9 (by decide +kernel)
theorem nX4_appendScript_X2 : ∀ w ∈ u_ws RX2 TX2 7, w ∈ wsX4_appendScript := in_lay 16 (by decide +kernel)
set_option maxHeartbeats 4000000 in
set_option maxRecDepth 100000 in
theorem p_appendS_full (l : Launch) (D : va_G) (cI cB cZ cO : ClassId) (sz : Nat) (xp : Nat) (xc : Nat) (xs : Nat) (xq : Nat) (xl : Nat) (ag : Nat) (di : Nat) (h : Nat) (a1 : Nat) (a2 : Nat) (a3 : Nat) (a4 : Nat) (a5 : Nat) (tt : Nat) (ln : Nat) (ed : Nat) (es : Nat) (ac : Nat) (cu : Nat) (xr : Nat) (xra : Nat) (p1 : Nat) (la : Nat) (lt : Nat) (srl : Nat) (sg : Int) (fi : Int) (se : Int) (src : Nat → Nat) (x1 : Nat) (hx : x1 ≤ 255) (hcl : srl = 80) : Met l yX4_appendScript wsX4_appendScript ({ frames := 1, cells := 0, slots := 0, locals := 21 }) (va_Pc [.ref xp, .int (iI ((x1 : Nat) : Int))] (RW D cI cB cZ cO sz [(xp, .inr (4, [.ref xc, .ref xs, .ref h, .ref xq, .ref xl, .int (iI ((ag : Nat) : Int)), .int (iI ((di : Nat) : Int))])), (h, .inr (0, [.ref a1, .ref a2, .ref a3, .int (iI ((tt : Nat) : Int)), .ref a4, .int (iI ((ln : Nat) : Int)), .ref a5, .int (iI ((ed : Nat) : Int)), .int (iI ((es : Nat) : Int)), .int (iI ((ac : Nat) : Int)), .int (iI ((cu : Nat) : Int))])), (xs, .inr (2, [.ref xr, .int (iI ((p1 : Nat) : Int)), .int (iI (sg)), .int (iI (fi)), .int (iI (se)), .int (iI ((la : Nat) : Int)), .int (iI ((lt : Nat) : Int))])), (xr, .inr (1, [.ref xra, .int (iI ((srl : Nat) : Int))])), (xra, .inl (cI, 80, .inl (rN (src))))])) (QX D (S := Unit) (fun u => some (.int (iI (-3)))) (fun u => True) (fun u => [(xp, .inr (4, [.ref xc, .ref xs, .ref h, .ref xq, .ref xl, .int (iI ((ag : Nat) : Int)), .int (iI ((di : Nat) : Int))])), (h, .inr (0, [.ref a1, .ref a2, .ref a3, .int (iI ((tt : Nat) : Int)), .ref a4, .int (iI ((ln : Nat) : Int)), .ref a5, .int (iI ((ed : Nat) : Int)), .int (iI ((es : Nat) : Int)), .int (iI ((ac : Nat) : Int)), .int (iI ((cu : Nat) : Int))])), (xs, .inr (2, [.ref xr, .int (iI ((p1 : Nat) : Int)), .int (iI (sg)), .int (iI (fi)), .int (iI (se)), .int (iI ((la : Nat) : Int)), .int (iI ((lt : Nat) : Int))])), (xr, .inr (1, [.ref xra, .int (iI ((srl : Nat) : Int))])), (xra, .inl (cI, 80, .inl (rN (src))))]) (va_A [(xp, .inr (4, [.ref xc, .ref xs, .ref h, .ref xq, .ref xl, .int (iI ((ag : Nat) : Int)), .int (iI ((di : Nat) : Int))])), (h, .inr (0, [.ref a1, .ref a2, .ref a3, .int (iI ((tt : Nat) : Int)), .ref a4, .int (iI ((ln : Nat) : Int)), .ref a5, .int (iI ((ed : Nat) : Int)), .int (iI ((es : Nat) : Int)), .int (iI ((ac : Nat) : Int)), .int (iI ((cu : Nat) : Int))])), (xs, .inr (2, [.ref xr, .int (iI ((p1 : Nat) : Int)), .int (iI (sg)), .int (iI (fi)), .int (iI (se)), .int (iI ((la : Nat) : Int)), .int (iI ((lt : Nat) : Int))])), (xr, .inr (1, [.ref xra, .int (iI ((srl : Nat) : Int))])), (xra, .inl (cI, 80, .inl (rN (src))))] sz)) 0 0 (va_A [(xp, .inr (4, [.ref xc, .ref xs, .ref h, .ref xq, .ref xl, .int (iI ((ag : Nat) : Int)), .int (iI ((di : Nat) : Int))])), (h, .inr (0, [.ref a1, .ref a2, .ref a3, .int (iI ((tt : Nat) : Int)), .ref a4, .int (iI ((ln : Nat) : Int)), .ref a5, .int (iI ((ed : Nat) : Int)), .int (iI ((es : Nat) : Int)), .int (iI ((ac : Nat) : Int)), .int (iI ((cu : Nat) : Int))])), (xs, .inr (2, [.ref xr, .int (iI ((p1 : Nat) : Int)), .int (iI (sg)), .int (iI (fi)), .int (iI (se)), .int (iI ((la : Nat) : Int)), .int (iI ((lt : Nat) : Int))])), (xr, .inr (1, [.ref xra, .int (iI ((srl : Nat) : Int))])), (xra, .inl (cI, 80, .inl (rN (src))))] sz) := by
  refine startW (cc := cX4_appendScript) (maxL := 2) (ret := (some .int)) (by decide) rfl (Nat.le_of_ble_eq_true rfl) ?_
  intro p e s m below meth c S hr hlocks hE hP A hD hA hS ls hl
  have hx := S.1
  have hb := S.2.1
  have hown := S.2.2.2.1
  have hts := S.2.2.2.2
  have hK := hE.1
  have hl : lv_has ls 2 [(0, .ref xp), (1, .int (iI ((x1 : Nat) : Int)))] := hl
  refine lv_iload_n hx hb dX4_appendScript_0 rfl (lv_at hl 1 rfl) ?_
  refine r_if_lt (tgt := 11) hx hb (by omega) dX4_appendScript_1 (by decide) (fun c_1 => ?_) (fun c_1 => ?_)
  · skip
    exfalso; omega
  · skip
    refine lv_iload_n hx hb dX4_appendScript_4 rfl (lv_at hl 1 rfl) ?_
    refine r_sipush hx hb dX4_appendScript_5 (by decide) ?_
    refine r_icmp_le (tgt := 13) hx hb (by omega) (⟨by decide, by decide⟩) dX4_appendScript_8 (by decide) (fun c_2 => ?_) (fun c_2 => ?_)
    · skip
      refine lv_aload_n hx hb dX4_appendScript_13 rfl (lv_at hl 0 rfl) ?_
      refine va_get (D := D) (ci := 4) (v := .ref xs) (C := RX4) (T := TX4) (N := 7) hx hb hts nX4_appendScript_X4 hown hK hP 0 rfl rfl 1 (by decide) (hts _ kX4_appendScript_21) (fun _ h9 => h9) rfl dX4_appendScript_14 ?_
      refine va_getN (D := D) (ci := 2) (v := .ref xr) (C := RX2) (T := TX2) (N := 7) hx hb hts nX4_appendScript_X2 hown hK hP 2 rfl rfl 0 (by decide) (va_Nw.use rfl (hE.2.f 3 rfl)) (fun _ h9 => h9) rfl dX4_appendScript_17 ?_
      refine lv_iload_n hx hb dX4_appendScript_20 rfl (lv_at hl 1 rfl) ?_
      refine callVX (n := 1) (As := [.int (iI ((x1 : Nat) : Int))]) (rest := []) (wc := [(xr, .inr (1, [.ref xra, .int (iI ((srl : Nat) : Int))])), (xra, .inl (cI, 80, .inl (rN (src))))]) (wr := [(xp, .inr (4, [.ref xc, .ref xs, .ref h, .ref xq, .ref xl, .int (iI ((ag : Nat) : Int)), .int (iI ((di : Nat) : Int))])), (h, .inr (0, [.ref a1, .ref a2, .ref a3, .int (iI ((tt : Nat) : Int)), .ref a4, .int (iI ((ln : Nat) : Int)), .ref a5, .int (iI ((ed : Nat) : Int)), .int (iI ((es : Nat) : Int)), .int (iI ((ac : Nat) : Int)), .int (iI ((cu : Nat) : Int))])), (xs, .inr (2, [.ref xr, .int (iI ((p1 : Nat) : Int)), .int (iI (sg)), .int (iI (fi)), .int (iI (se)), .int (iI ((la : Nat) : Int)), .int (iI ((lt : Nat) : Int))]))]) (ws2 := fun u => [(xp, .inr (4, [.ref xc, .ref xs, .ref h, .ref xq, .ref xl, .int (iI ((ag : Nat) : Int)), .int (iI ((di : Nat) : Int))])), (h, .inr (0, [.ref a1, .ref a2, .ref a3, .int (iI ((tt : Nat) : Int)), .ref a4, .int (iI ((ln : Nat) : Int)), .ref a5, .int (iI ((ed : Nat) : Int)), .int (iI ((es : Nat) : Int)), .int (iI ((ac : Nat) : Int)), .int (iI ((cu : Nat) : Int))])), (xs, .inr (2, [.ref xr, .int (iI ((p1 : Nat) : Int)), .int (iI (sg)), .int (iI (fi)), .int (iI (se)), .int (iI ((la : Nat) : Int)), .int (iI ((lt : Nat) : Int))])), (xr, .inr (1, [.ref xra, .int (iI ((srl : Nat) : Int))])), (xra, .inl (cI, 80, .inl (rN (src))))]) S hE hP hD hS hA (c_row_full l D cI cB cZ cO s.heap.size xr xra 80 src srl x1 (by first | assumption | (omega)) (by first | assumption | (omega))) gX4_appendScript_X1_add rfl ⟨rfl, rfl⟩ (by decide +kernel) ⟨Nat.le_of_ble_eq_true rfl, Nat.le_of_ble_eq_true rfl⟩ [3, 4] [0, 1, 2] [0, 1, 2, 3, 4] rfl (by decide) rfl (by decide) (by decide) (by decide) (fun u => rfl) 1 0 rfl rfl rfl hl.1 rfl (Nat.le_of_ble_eq_true rfl) dX4_appendScript_21 ⟨Nat.le_of_ble_eq_true rfl, Nat.le_of_ble_eq_true rfl⟩ (fun u u21p H locs hP hD hS => ?_)
      have hP : va_P D vwCl [(xp, .inr (4, [.ref xc, .ref xs, .ref h, .ref xq, .ref xl, .int (iI ((ag : Nat) : Int)), .int (iI ((di : Nat) : Int))])), (h, .inr (0, [.ref a1, .ref a2, .ref a3, .int (iI ((tt : Nat) : Int)), .ref a4, .int (iI ((ln : Nat) : Int)), .ref a5, .int (iI ((ed : Nat) : Int)), .int (iI ((es : Nat) : Int)), .int (iI ((ac : Nat) : Int)), .int (iI ((cu : Nat) : Int))])), (xs, .inr (2, [.ref xr, .int (iI ((p1 : Nat) : Int)), .int (iI (sg)), .int (iI (fi)), .int (iI (se)), .int (iI ((la : Nat) : Int)), .int (iI ((lt : Nat) : Int))])), (xr, .inr (1, [.ref xra, .int (iI ((srl : Nat) : Int))])), (xra, .inl (cI, 80, .inl (rN (src))))] H := hP
      have hD : va_D A [(xp, .inr (4, [.ref xc, .ref xs, .ref h, .ref xq, .ref xl, .int (iI ((ag : Nat) : Int)), .int (iI ((di : Nat) : Int))])), (h, .inr (0, [.ref a1, .ref a2, .ref a3, .int (iI ((tt : Nat) : Int)), .ref a4, .int (iI ((ln : Nat) : Int)), .ref a5, .int (iI ((ed : Nat) : Int)), .int (iI ((es : Nat) : Int)), .int (iI ((ac : Nat) : Int)), .int (iI ((cu : Nat) : Int))])), (xs, .inr (2, [.ref xr, .int (iI ((p1 : Nat) : Int)), .int (iI (sg)), .int (iI (fi)), .int (iI (se)), .int (iI ((la : Nat) : Int)), .int (iI ((lt : Nat) : Int))])), (xr, .inr (1, [.ref xra, .int (iI ((srl : Nat) : Int))])), (xra, .inl (cI, 80, .inl (rN (src))))] := hD
      refine W.eq (g2 := F0 m 24 ls [.int (iI (bI (False)))]) rfl ?_
      refine r_ifb_eq (tgt := 40) hx hb dX4_appendScript_24 (by decide) (fun c_3 => ?_) (fun c_3 => ?_)
      · skip
        refine r_bipush hx hb dX4_appendScript_40 (by decide) ?_
        exact r_iretX hx hb hr hlocks hP hD hS () (rfl) (trivial) rfl dX4_appendScript_42
      · skip
        exfalso; assumption
    · skip
      exfalso; omega

theorem nX4_appendScript_X1 : ∀ w ∈ u_ws RX1 TX1 2, w ∈ wsX4_appendScript := in_lay 23 (by decide +kernel)
set_option maxHeartbeats 4000000 in
set_option maxRecDepth 100000 in
theorem p_appendS (l : Launch) (D : va_G) (cI cB cZ cO : ClassId) (sz : Nat) (xp : Nat) (xc : Nat) (xs : Nat) (xq : Nat) (xl : Nat) (ag : Nat) (di : Nat) (h : Nat) (a1 : Nat) (a2 : Nat) (a3 : Nat) (a4 : Nat) (a5 : Nat) (tt : Nat) (ln : Nat) (ed : Nat) (es : Nat) (ac : Nat) (cu : Nat) (xr : Nat) (xra : Nat) (p1 : Nat) (la : Nat) (lt : Nat) (srl : Nat) (sg : Int) (fi : Int) (se : Int) (src : Nat → Nat) (x1 : Nat) (hx : x1 ≤ 255) (hcl : srl < 80) : Met l yX4_appendScript wsX4_appendScript ({ frames := 1, cells := 0, slots := 0, locals := 21 }) (va_Pc [.ref xp, .int (iI ((x1 : Nat) : Int))] (RW D cI cB cZ cO sz [(xp, .inr (4, [.ref xc, .ref xs, .ref h, .ref xq, .ref xl, .int (iI ((ag : Nat) : Int)), .int (iI ((di : Nat) : Int))])), (h, .inr (0, [.ref a1, .ref a2, .ref a3, .int (iI ((tt : Nat) : Int)), .ref a4, .int (iI ((ln : Nat) : Int)), .ref a5, .int (iI ((ed : Nat) : Int)), .int (iI ((es : Nat) : Int)), .int (iI ((ac : Nat) : Int)), .int (iI ((cu : Nat) : Int))])), (xs, .inr (2, [.ref xr, .int (iI ((p1 : Nat) : Int)), .int (iI (sg)), .int (iI (fi)), .int (iI (se)), .int (iI ((la : Nat) : Int)), .int (iI ((lt : Nat) : Int))])), (xr, .inr (1, [.ref xra, .int (iI ((srl : Nat) : Int))])), (xra, .inl (cI, 80, .inl (rN (src))))])) (QX D (S := Unit) (fun u => some (.int (iI ((srl + 1 : Nat) : Int)))) (fun u => True) (fun u => [(xp, .inr (4, [.ref xc, .ref xs, .ref h, .ref xq, .ref xl, .int (iI ((ag : Nat) : Int)), .int (iI ((di : Nat) : Int))])), (h, .inr (0, [.ref a1, .ref a2, .ref a3, .int (iI ((tt : Nat) : Int)), .ref a4, .int (iI ((ln : Nat) : Int)), .ref a5, .int (iI ((ed : Nat) : Int)), .int (iI ((es : Nat) : Int)), .int (iI ((ac : Nat) : Int)), .int (iI ((cu : Nat) : Int))])), (xs, .inr (2, [.ref xr, .int (iI ((p1 : Nat) : Int)), .int (iI (sg)), .int (iI (fi)), .int (iI (se)), .int (iI ((la : Nat) : Int)), .int (iI ((lt : Nat) : Int))])), (xr, .inr (1, [.ref xra, .int (iI ((srl + 1 : Nat) : Int))])), (xra, .inl (cI, 80, .inl (rN (up src srl (x1)))))]) (va_A [(xp, .inr (4, [.ref xc, .ref xs, .ref h, .ref xq, .ref xl, .int (iI ((ag : Nat) : Int)), .int (iI ((di : Nat) : Int))])), (h, .inr (0, [.ref a1, .ref a2, .ref a3, .int (iI ((tt : Nat) : Int)), .ref a4, .int (iI ((ln : Nat) : Int)), .ref a5, .int (iI ((ed : Nat) : Int)), .int (iI ((es : Nat) : Int)), .int (iI ((ac : Nat) : Int)), .int (iI ((cu : Nat) : Int))])), (xs, .inr (2, [.ref xr, .int (iI ((p1 : Nat) : Int)), .int (iI (sg)), .int (iI (fi)), .int (iI (se)), .int (iI ((la : Nat) : Int)), .int (iI ((lt : Nat) : Int))])), (xr, .inr (1, [.ref xra, .int (iI ((srl : Nat) : Int))])), (xra, .inl (cI, 80, .inl (rN (src))))] sz)) 0 0 (va_A [(xp, .inr (4, [.ref xc, .ref xs, .ref h, .ref xq, .ref xl, .int (iI ((ag : Nat) : Int)), .int (iI ((di : Nat) : Int))])), (h, .inr (0, [.ref a1, .ref a2, .ref a3, .int (iI ((tt : Nat) : Int)), .ref a4, .int (iI ((ln : Nat) : Int)), .ref a5, .int (iI ((ed : Nat) : Int)), .int (iI ((es : Nat) : Int)), .int (iI ((ac : Nat) : Int)), .int (iI ((cu : Nat) : Int))])), (xs, .inr (2, [.ref xr, .int (iI ((p1 : Nat) : Int)), .int (iI (sg)), .int (iI (fi)), .int (iI (se)), .int (iI ((la : Nat) : Int)), .int (iI ((lt : Nat) : Int))])), (xr, .inr (1, [.ref xra, .int (iI ((srl : Nat) : Int))])), (xra, .inl (cI, 80, .inl (rN (src))))] sz) := by
  refine startW (cc := cX4_appendScript) (maxL := 2) (ret := (some .int)) (by decide) rfl (Nat.le_of_ble_eq_true rfl) ?_
  intro p e s m below meth c S hr hlocks hE hP A hD hA hS ls hl
  have hx := S.1
  have hb := S.2.1
  have hown := S.2.2.2.1
  have hts := S.2.2.2.2
  have hK := hE.1
  have hl : lv_has ls 2 [(0, .ref xp), (1, .int (iI ((x1 : Nat) : Int)))] := hl
  refine lv_iload_n hx hb dX4_appendScript_0 rfl (lv_at hl 1 rfl) ?_
  refine r_if_lt (tgt := 11) hx hb (by omega) dX4_appendScript_1 (by decide) (fun c_1 => ?_) (fun c_1 => ?_)
  · skip
    exfalso; omega
  · skip
    refine lv_iload_n hx hb dX4_appendScript_4 rfl (lv_at hl 1 rfl) ?_
    refine r_sipush hx hb dX4_appendScript_5 (by decide) ?_
    refine r_icmp_le (tgt := 13) hx hb (by omega) (⟨by decide, by decide⟩) dX4_appendScript_8 (by decide) (fun c_2 => ?_) (fun c_2 => ?_)
    · skip
      refine lv_aload_n hx hb dX4_appendScript_13 rfl (lv_at hl 0 rfl) ?_
      refine va_get (D := D) (ci := 4) (v := .ref xs) (C := RX4) (T := TX4) (N := 7) hx hb hts nX4_appendScript_X4 hown hK hP 0 rfl rfl 1 (by decide) (hts _ kX4_appendScript_21) (fun _ h9 => h9) rfl dX4_appendScript_14 ?_
      refine va_getN (D := D) (ci := 2) (v := .ref xr) (C := RX2) (T := TX2) (N := 7) hx hb hts nX4_appendScript_X2 hown hK hP 2 rfl rfl 0 (by decide) (va_Nw.use rfl (hE.2.f 3 rfl)) (fun _ h9 => h9) rfl dX4_appendScript_17 ?_
      refine lv_iload_n hx hb dX4_appendScript_20 rfl (lv_at hl 1 rfl) ?_
      refine callVX (n := 1) (As := [.int (iI ((x1 : Nat) : Int))]) (rest := []) (wc := [(xr, .inr (1, [.ref xra, .int (iI ((srl : Nat) : Int))])), (xra, .inl (cI, 80, .inl (rN (src))))]) (wr := [(xp, .inr (4, [.ref xc, .ref xs, .ref h, .ref xq, .ref xl, .int (iI ((ag : Nat) : Int)), .int (iI ((di : Nat) : Int))])), (h, .inr (0, [.ref a1, .ref a2, .ref a3, .int (iI ((tt : Nat) : Int)), .ref a4, .int (iI ((ln : Nat) : Int)), .ref a5, .int (iI ((ed : Nat) : Int)), .int (iI ((es : Nat) : Int)), .int (iI ((ac : Nat) : Int)), .int (iI ((cu : Nat) : Int))])), (xs, .inr (2, [.ref xr, .int (iI ((p1 : Nat) : Int)), .int (iI (sg)), .int (iI (fi)), .int (iI (se)), .int (iI ((la : Nat) : Int)), .int (iI ((lt : Nat) : Int))]))]) (ws2 := fun u => [(xp, .inr (4, [.ref xc, .ref xs, .ref h, .ref xq, .ref xl, .int (iI ((ag : Nat) : Int)), .int (iI ((di : Nat) : Int))])), (h, .inr (0, [.ref a1, .ref a2, .ref a3, .int (iI ((tt : Nat) : Int)), .ref a4, .int (iI ((ln : Nat) : Int)), .ref a5, .int (iI ((ed : Nat) : Int)), .int (iI ((es : Nat) : Int)), .int (iI ((ac : Nat) : Int)), .int (iI ((cu : Nat) : Int))])), (xs, .inr (2, [.ref xr, .int (iI ((p1 : Nat) : Int)), .int (iI (sg)), .int (iI (fi)), .int (iI (se)), .int (iI ((la : Nat) : Int)), .int (iI ((lt : Nat) : Int))])), (xr, .inr (1, [.ref xra, .int (iI ((srl + 1 : Nat) : Int))])), (xra, .inl (cI, 80, .inl (rN (up src srl (x1)))))]) S hE hP hD hS hA (c_row_add l D cI cB cZ cO s.heap.size xr xra 80 src srl x1 (by first | assumption | (omega)) (by first | assumption | (omega))) gX4_appendScript_X1_add rfl ⟨rfl, rfl⟩ (by decide +kernel) ⟨Nat.le_of_ble_eq_true rfl, Nat.le_of_ble_eq_true rfl⟩ [3, 4] [0, 1, 2] [0, 1, 2, 3, 4] rfl (by decide) rfl (by decide) (by decide) (by decide) (fun u => rfl) 1 0 rfl rfl rfl hl.1 rfl (Nat.le_of_ble_eq_true rfl) dX4_appendScript_21 ⟨Nat.le_of_ble_eq_true rfl, Nat.le_of_ble_eq_true rfl⟩ (fun u u21p H locs hP hD hS => ?_)
      have hP : va_P D vwCl [(xp, .inr (4, [.ref xc, .ref xs, .ref h, .ref xq, .ref xl, .int (iI ((ag : Nat) : Int)), .int (iI ((di : Nat) : Int))])), (h, .inr (0, [.ref a1, .ref a2, .ref a3, .int (iI ((tt : Nat) : Int)), .ref a4, .int (iI ((ln : Nat) : Int)), .ref a5, .int (iI ((ed : Nat) : Int)), .int (iI ((es : Nat) : Int)), .int (iI ((ac : Nat) : Int)), .int (iI ((cu : Nat) : Int))])), (xs, .inr (2, [.ref xr, .int (iI ((p1 : Nat) : Int)), .int (iI (sg)), .int (iI (fi)), .int (iI (se)), .int (iI ((la : Nat) : Int)), .int (iI ((lt : Nat) : Int))])), (xr, .inr (1, [.ref xra, .int (iI ((srl + 1 : Nat) : Int))])), (xra, .inl (cI, 80, .inl (rN (up src srl (x1)))))] H := hP
      have hD : va_D A [(xp, .inr (4, [.ref xc, .ref xs, .ref h, .ref xq, .ref xl, .int (iI ((ag : Nat) : Int)), .int (iI ((di : Nat) : Int))])), (h, .inr (0, [.ref a1, .ref a2, .ref a3, .int (iI ((tt : Nat) : Int)), .ref a4, .int (iI ((ln : Nat) : Int)), .ref a5, .int (iI ((ed : Nat) : Int)), .int (iI ((es : Nat) : Int)), .int (iI ((ac : Nat) : Int)), .int (iI ((cu : Nat) : Int))])), (xs, .inr (2, [.ref xr, .int (iI ((p1 : Nat) : Int)), .int (iI (sg)), .int (iI (fi)), .int (iI (se)), .int (iI ((la : Nat) : Int)), .int (iI ((lt : Nat) : Int))])), (xr, .inr (1, [.ref xra, .int (iI ((srl + 1 : Nat) : Int))])), (xra, .inl (cI, 80, .inl (rN (up src srl (x1)))))] := hD
      refine W.eq (g2 := F0 m 24 ls [.int (iI (bI (True)))]) rfl ?_
      refine r_ifb_eq (tgt := 40) hx hb dX4_appendScript_24 (by decide) (fun c_3 => ?_) (fun c_3 => ?_)
      · skip
        exfalso; exact absurd trivial (by assumption)
      · skip
        refine lv_aload_n hx hb dX4_appendScript_27 rfl (lv_at hl 0 rfl) ?_
        refine va_get (D := D) (ci := 4) (v := .ref xs) (C := RX4) (T := TX4) (N := 7) hx hb hts nX4_appendScript_X4 hown hK hP 0 rfl rfl 1 (by decide) (hts _ kX4_appendScript_21) (fun _ h9 => h9) rfl dX4_appendScript_28 ?_
        refine va_getN (D := D) (ci := 2) (v := .ref xr) (C := RX2) (T := TX2) (N := 7) hx hb hts nX4_appendScript_X2 hown hK hP 2 rfl rfl 0 (by decide) (va_Nw.use rfl (hE.2.f 3 rfl)) (fun _ h9 => h9) rfl dX4_appendScript_31 ?_
        refine va_getN (D := D) (ci := 1) (v := .int (iI ((srl + 1 : Nat) : Int))) (C := RX1) (T := TX1) (N := 2) hx hb hts nX4_appendScript_X1 hown hK hP 3 rfl rfl 1 (by decide) (va_Nw.use rfl (hE.2.f 1 rfl)) (fun _ h9 => h9) rfl dX4_appendScript_34 ?_
        refine lv_goto (tgt := 42) hx hb dX4_appendScript_37 (by decide) ?_
        exact r_iretX hx hb hr hlocks hP hD hS () (rfl) (trivial) rfl dX4_appendScript_42
    · skip
      exfalso; omega

theorem kX4_clearScript_21 : Cond.fieldLink RX4 21 "PricedUndo" "script" "LPricedUndo$Script;" ∈ wsX4_clearScript := List.mem_of_getElem? (i := 1) (by decide +kernel)
theorem nX4_clearScript_X4 : ∀ w ∈ u_ws RX4 TX4 7, w ∈ wsX4_clearScript := in_lay 8 (by decide +kernel)
theorem nX4_clearScript_X2 : ∀ w ∈ u_ws RX2 TX2 7, w ∈ wsX4_clearScript := in_lay 15 (by decide +kernel)
set_option maxHeartbeats 4000000 in
set_option maxRecDepth 100000 in
theorem p_clearScript (l : Launch) (D : va_G) (cI cB cZ cO : ClassId) (sz : Nat) (xp : Nat) (xc : Nat) (xs : Nat) (xq : Nat) (xl : Nat) (ag : Nat) (di : Nat) (h : Nat) (a1 : Nat) (a2 : Nat) (a3 : Nat) (a4 : Nat) (a5 : Nat) (tt : Nat) (ln : Nat) (ed : Nat) (es : Nat) (ac : Nat) (cu : Nat) (xr : Nat) (xra : Nat) (p1 : Nat) (la : Nat) (lt : Nat) (srl : Nat) (sg : Int) (fi : Int) (se : Int) (src : Nat → Nat) (hcl : srl ≤ 80) : Met l yX4_clearScript wsX4_clearScript ({ frames := 1, cells := 0, slots := 0, locals := 21 }) (va_Pc [.ref xp] (RW D cI cB cZ cO sz [(xp, .inr (4, [.ref xc, .ref xs, .ref h, .ref xq, .ref xl, .int (iI ((ag : Nat) : Int)), .int (iI ((di : Nat) : Int))])), (h, .inr (0, [.ref a1, .ref a2, .ref a3, .int (iI ((tt : Nat) : Int)), .ref a4, .int (iI ((ln : Nat) : Int)), .ref a5, .int (iI ((ed : Nat) : Int)), .int (iI ((es : Nat) : Int)), .int (iI ((ac : Nat) : Int)), .int (iI ((cu : Nat) : Int))])), (xs, .inr (2, [.ref xr, .int (iI ((p1 : Nat) : Int)), .int (iI (sg)), .int (iI (fi)), .int (iI (se)), .int (iI ((la : Nat) : Int)), .int (iI ((lt : Nat) : Int))])), (xr, .inr (1, [.ref xra, .int (iI ((srl : Nat) : Int))])), (xra, .inl (cI, 80, .inl (rN (src))))])) (QX D (S := Unit) (fun u => some (.int (iI ((srl : Nat) : Int)))) (fun u => True) (fun u => [(xp, .inr (4, [.ref xc, .ref xs, .ref h, .ref xq, .ref xl, .int (iI ((ag : Nat) : Int)), .int (iI ((di : Nat) : Int))])), (h, .inr (0, [.ref a1, .ref a2, .ref a3, .int (iI ((tt : Nat) : Int)), .ref a4, .int (iI ((ln : Nat) : Int)), .ref a5, .int (iI ((ed : Nat) : Int)), .int (iI ((es : Nat) : Int)), .int (iI ((ac : Nat) : Int)), .int (iI ((cu : Nat) : Int))])), (xs, .inr (2, [.ref xr, .int (iI ((p1 : Nat) : Int)), .int (iI (sg)), .int (iI (fi)), .int (iI (se)), .int (iI ((la : Nat) : Int)), .int (iI ((lt : Nat) : Int))])), (xr, .inr (1, [.ref xra, .int (iI 0)])), (xra, .inl (cI, 80, .inl (rN (src))))]) (va_A [(xp, .inr (4, [.ref xc, .ref xs, .ref h, .ref xq, .ref xl, .int (iI ((ag : Nat) : Int)), .int (iI ((di : Nat) : Int))])), (h, .inr (0, [.ref a1, .ref a2, .ref a3, .int (iI ((tt : Nat) : Int)), .ref a4, .int (iI ((ln : Nat) : Int)), .ref a5, .int (iI ((ed : Nat) : Int)), .int (iI ((es : Nat) : Int)), .int (iI ((ac : Nat) : Int)), .int (iI ((cu : Nat) : Int))])), (xs, .inr (2, [.ref xr, .int (iI ((p1 : Nat) : Int)), .int (iI (sg)), .int (iI (fi)), .int (iI (se)), .int (iI ((la : Nat) : Int)), .int (iI ((lt : Nat) : Int))])), (xr, .inr (1, [.ref xra, .int (iI ((srl : Nat) : Int))])), (xra, .inl (cI, 80, .inl (rN (src))))] sz)) 0 0 (va_A [(xp, .inr (4, [.ref xc, .ref xs, .ref h, .ref xq, .ref xl, .int (iI ((ag : Nat) : Int)), .int (iI ((di : Nat) : Int))])), (h, .inr (0, [.ref a1, .ref a2, .ref a3, .int (iI ((tt : Nat) : Int)), .ref a4, .int (iI ((ln : Nat) : Int)), .ref a5, .int (iI ((ed : Nat) : Int)), .int (iI ((es : Nat) : Int)), .int (iI ((ac : Nat) : Int)), .int (iI ((cu : Nat) : Int))])), (xs, .inr (2, [.ref xr, .int (iI ((p1 : Nat) : Int)), .int (iI (sg)), .int (iI (fi)), .int (iI (se)), .int (iI ((la : Nat) : Int)), .int (iI ((lt : Nat) : Int))])), (xr, .inr (1, [.ref xra, .int (iI ((srl : Nat) : Int))])), (xra, .inl (cI, 80, .inl (rN (src))))] sz) := by
  refine startW (cc := cX4_clearScript) (maxL := 1) (ret := (some .int)) (by decide) rfl (Nat.le_of_ble_eq_true rfl) ?_
  intro p e s m below meth c S hr hlocks hE hP A hD hA hS ls hl
  have hx := S.1
  have hb := S.2.1
  have hown := S.2.2.2.1
  have hts := S.2.2.2.2
  have hK := hE.1
  have hl : lv_has ls 1 [(0, .ref xp)] := hl
  refine lv_aload_n hx hb dX4_clearScript_0 rfl (lv_at hl 0 rfl) ?_
  refine va_get (D := D) (ci := 4) (v := .ref xs) (C := RX4) (T := TX4) (N := 7) hx hb hts nX4_clearScript_X4 hown hK hP 0 rfl rfl 1 (by decide) (hts _ kX4_clearScript_21) (fun _ h9 => h9) rfl dX4_clearScript_1 ?_
  refine va_getN (D := D) (ci := 2) (v := .ref xr) (C := RX2) (T := TX2) (N := 7) hx hb hts nX4_clearScript_X2 hown hK hP 2 rfl rfl 0 (by decide) (va_Nw.use rfl (hE.2.f 3 rfl)) (fun _ h9 => h9) rfl dX4_clearScript_4 ?_
  refine callVX (n := 0) (As := []) (rest := []) (wc := [(xr, .inr (1, [.ref xra, .int (iI ((srl : Nat) : Int))])), (xra, .inl (cI, 80, .inl (rN (src))))]) (wr := [(xp, .inr (4, [.ref xc, .ref xs, .ref h, .ref xq, .ref xl, .int (iI ((ag : Nat) : Int)), .int (iI ((di : Nat) : Int))])), (h, .inr (0, [.ref a1, .ref a2, .ref a3, .int (iI ((tt : Nat) : Int)), .ref a4, .int (iI ((ln : Nat) : Int)), .ref a5, .int (iI ((ed : Nat) : Int)), .int (iI ((es : Nat) : Int)), .int (iI ((ac : Nat) : Int)), .int (iI ((cu : Nat) : Int))])), (xs, .inr (2, [.ref xr, .int (iI ((p1 : Nat) : Int)), .int (iI (sg)), .int (iI (fi)), .int (iI (se)), .int (iI ((la : Nat) : Int)), .int (iI ((lt : Nat) : Int))]))]) (ws2 := fun u => [(xp, .inr (4, [.ref xc, .ref xs, .ref h, .ref xq, .ref xl, .int (iI ((ag : Nat) : Int)), .int (iI ((di : Nat) : Int))])), (h, .inr (0, [.ref a1, .ref a2, .ref a3, .int (iI ((tt : Nat) : Int)), .ref a4, .int (iI ((ln : Nat) : Int)), .ref a5, .int (iI ((ed : Nat) : Int)), .int (iI ((es : Nat) : Int)), .int (iI ((ac : Nat) : Int)), .int (iI ((cu : Nat) : Int))])), (xs, .inr (2, [.ref xr, .int (iI ((p1 : Nat) : Int)), .int (iI (sg)), .int (iI (fi)), .int (iI (se)), .int (iI ((la : Nat) : Int)), .int (iI ((lt : Nat) : Int))])), (xr, .inr (1, [.ref xra, .int (iI 0)])), (xra, .inl (cI, 80, .inl (rN (src))))]) S hE hP hD hS hA (c_row_drop l D cI cB cZ cO s.heap.size xr xra 80 src srl (by first | assumption | (omega))) gX4_clearScript_X1_drop rfl ⟨rfl, rfl⟩ (by decide +kernel) ⟨Nat.le_of_ble_eq_true rfl, Nat.le_of_ble_eq_true rfl⟩ [3, 4] [0, 1, 2] [0, 1, 2, 3, 4] rfl (by decide) rfl (by decide) (by decide) (by decide) (fun u => rfl) 1 0 rfl rfl rfl hl.1 rfl (Nat.le_of_ble_eq_true rfl) dX4_clearScript_7 ⟨Nat.le_of_ble_eq_true rfl, Nat.le_of_ble_eq_true rfl⟩ (fun u u7p H locs hP hD hS => ?_)
  have hP : va_P D vwCl [(xp, .inr (4, [.ref xc, .ref xs, .ref h, .ref xq, .ref xl, .int (iI ((ag : Nat) : Int)), .int (iI ((di : Nat) : Int))])), (h, .inr (0, [.ref a1, .ref a2, .ref a3, .int (iI ((tt : Nat) : Int)), .ref a4, .int (iI ((ln : Nat) : Int)), .ref a5, .int (iI ((ed : Nat) : Int)), .int (iI ((es : Nat) : Int)), .int (iI ((ac : Nat) : Int)), .int (iI ((cu : Nat) : Int))])), (xs, .inr (2, [.ref xr, .int (iI ((p1 : Nat) : Int)), .int (iI (sg)), .int (iI (fi)), .int (iI (se)), .int (iI ((la : Nat) : Int)), .int (iI ((lt : Nat) : Int))])), (xr, .inr (1, [.ref xra, .int (iI 0)])), (xra, .inl (cI, 80, .inl (rN (src))))] H := hP
  have hD : va_D A [(xp, .inr (4, [.ref xc, .ref xs, .ref h, .ref xq, .ref xl, .int (iI ((ag : Nat) : Int)), .int (iI ((di : Nat) : Int))])), (h, .inr (0, [.ref a1, .ref a2, .ref a3, .int (iI ((tt : Nat) : Int)), .ref a4, .int (iI ((ln : Nat) : Int)), .ref a5, .int (iI ((ed : Nat) : Int)), .int (iI ((es : Nat) : Int)), .int (iI ((ac : Nat) : Int)), .int (iI ((cu : Nat) : Int))])), (xs, .inr (2, [.ref xr, .int (iI ((p1 : Nat) : Int)), .int (iI (sg)), .int (iI (fi)), .int (iI (se)), .int (iI ((la : Nat) : Int)), .int (iI ((lt : Nat) : Int))])), (xr, .inr (1, [.ref xra, .int (iI 0)])), (xra, .inl (cI, 80, .inl (rN (src))))] := hD
  refine W.eq (g2 := F0 m 10 ls [.int (iI ((srl : Nat) : Int))]) rfl ?_
  exact r_iretX hx hb hr hlocks hP hD hS () (rfl) (trivial) rfl dX4_clearScript_10

set_option maxHeartbeats 4000000 in
set_option maxRecDepth 100000 in
theorem t_isDigit (l : Launch) (D : va_G) (cI cB cZ cO : ClassId) (x : Int) (rx : rg x) : Met l yX2_isDigit wsX2_isDigit ({ frames := 0, cells := 0, slots := 0, locals := 0 }) (va_Pc [.int (iI (x))] (RO D cI cB cZ cO [])) (QO (bI (48 ≤ x ∧ x ≤ 57))) 0 0 (fun _ => False) := by
  refine startO (cc := cX2_isDigit) (maxL := 1) (ret := (some .boolean)) (by decide) rfl (Nat.le_of_ble_eq_true rfl) ?_
  intro p e s m below meth c S hr hlocks hE hP ls hl
  have hx := S.1
  have hb := S.2.1
  have hown := S.2.2.2.1
  have hts := S.2.2.2.2
  have hK := hE.1
  have hl : lv_has ls 1 [(0, .int (iI (x)))] := hl
  refine lv_iload_n hx hb dX2_isDigit_0 rfl (lv_at hl 0 rfl) ?_
  refine r_bipush hx hb dX2_isDigit_1 (by decide) ?_
  refine r_icmp_lt (tgt := 16) hx hb (by omega) (⟨by decide, by decide⟩) dX2_isDigit_3 (by decide) (fun c_1 => ?_) (fun c_1 => ?_)
  · skip
    refine r_iconst hx hb dX2_isDigit_16 ?_
    exact r_zretO hx hb hr hlocks ((bI_f (by omega)).symm) (Or.inl rfl) dX2_isDigit_17
  · skip
    refine lv_iload_n hx hb dX2_isDigit_6 rfl (lv_at hl 0 rfl) ?_
    refine r_bipush hx hb dX2_isDigit_7 (by decide) ?_
    refine r_icmp_gt (tgt := 16) hx hb (by omega) (⟨by decide, by decide⟩) dX2_isDigit_9 (by decide) (fun c_2 => ?_) (fun c_2 => ?_)
    · skip
      refine r_iconst hx hb dX2_isDigit_16 ?_
      exact r_zretO hx hb hr hlocks ((bI_f (by omega)).symm) (Or.inl rfl) dX2_isDigit_17
    · skip
      refine r_iconst hx hb dX2_isDigit_12 ?_
      refine lv_goto (tgt := 17) hx hb dX2_isDigit_13 (by decide) ?_
      exact r_zretO hx hb hr hlocks ((bI_t (by omega)).symm) (Or.inr rfl) dX2_isDigit_17

set_option maxHeartbeats 4000000 in
set_option maxRecDepth 100000 in
theorem t_isLetter (l : Launch) (D : va_G) (cI cB cZ cO : ClassId) (x : Int) (rx : rg x) : Met l yX2_isLetter wsX2_isLetter ({ frames := 0, cells := 0, slots := 0, locals := 0 }) (va_Pc [.int (iI (x))] (RO D cI cB cZ cO [])) (QO (bI (97 ≤ x ∧ x ≤ 122))) 0 0 (fun _ => False) := by
  refine startO (cc := cX2_isLetter) (maxL := 1) (ret := (some .boolean)) (by decide) rfl (Nat.le_of_ble_eq_true rfl) ?_
  intro p e s m below meth c S hr hlocks hE hP ls hl
  have hx := S.1
  have hb := S.2.1
  have hown := S.2.2.2.1
  have hts := S.2.2.2.2
  have hK := hE.1
  have hl : lv_has ls 1 [(0, .int (iI (x)))] := hl
  refine lv_iload_n hx hb dX2_isLetter_0 rfl (lv_at hl 0 rfl) ?_
  refine r_bipush hx hb dX2_isLetter_1 (by decide) ?_
  refine r_icmp_lt (tgt := 16) hx hb (by omega) (⟨by decide, by decide⟩) dX2_isLetter_3 (by decide) (fun c_1 => ?_) (fun c_1 => ?_)
  · skip
    refine r_iconst hx hb dX2_isLetter_16 ?_
    exact r_zretO hx hb hr hlocks ((bI_f (by omega)).symm) (Or.inl rfl) dX2_isLetter_17
  · skip
    refine lv_iload_n hx hb dX2_isLetter_6 rfl (lv_at hl 0 rfl) ?_
    refine r_bipush hx hb dX2_isLetter_7 (by decide) ?_
    refine r_icmp_gt (tgt := 16) hx hb (by omega) (⟨by decide, by decide⟩) dX2_isLetter_9 (by decide) (fun c_2 => ?_) (fun c_2 => ?_)
    · skip
      refine r_iconst hx hb dX2_isLetter_16 ?_
      exact r_zretO hx hb hr hlocks ((bI_f (by omega)).symm) (Or.inl rfl) dX2_isLetter_17
    · skip
      refine r_iconst hx hb dX2_isLetter_12 ?_
      refine lv_goto (tgt := 17) hx hb dX2_isLetter_13 (by decide) ?_
      exact r_zretO hx hb hr hlocks ((bI_t (by omega)).symm) (Or.inr rfl) dX2_isLetter_17

theorem kX2_rewind_20 : Cond.fieldLink RX2 20 "PricedUndo$Script" "at" "I" ∈ wsX2_rewind := List.mem_of_getElem? (i := 1) (by decide +kernel)
theorem nX2_rewind_X2 : ∀ w ∈ u_ws RX2 TX2 7, w ∈ wsX2_rewind := in_lay 2 (by decide +kernel)
set_option maxHeartbeats 4000000 in
set_option maxRecDepth 100000 in
theorem t_rewind (l : Launch) (D : va_G) (cI cB cZ cO : ClassId) (sz : Nat) (xs : Nat) (xr : Nat) (xra : Nat) (p1 : Nat) (la : Nat) (lt : Nat) (srl : Nat) (sg : Int) (fi : Int) (se : Int) (src : Nat → Nat)  : Met l yX2_rewind wsX2_rewind ({ frames := 0, cells := 0, slots := 0, locals := 0 }) (va_Pc [.ref xs] (RW D cI cB cZ cO sz [(xs, .inr (2, [.ref xr, .int (iI ((p1 : Nat) : Int)), .int (iI (sg)), .int (iI (fi)), .int (iI (se)), .int (iI ((la : Nat) : Int)), .int (iI ((lt : Nat) : Int))]))])) (QX D (S := Unit) (fun u => none) (fun u => True) (fun u => [(xs, .inr (2, [.ref xr, .int (iI 0), .int (iI (sg)), .int (iI (fi)), .int (iI (se)), .int (iI ((la : Nat) : Int)), .int (iI ((lt : Nat) : Int))]))]) (va_A [(xs, .inr (2, [.ref xr, .int (iI ((p1 : Nat) : Int)), .int (iI (sg)), .int (iI (fi)), .int (iI (se)), .int (iI ((la : Nat) : Int)), .int (iI ((lt : Nat) : Int))]))] sz)) 0 0 (va_A [(xs, .inr (2, [.ref xr, .int (iI ((p1 : Nat) : Int)), .int (iI (sg)), .int (iI (fi)), .int (iI (se)), .int (iI ((la : Nat) : Int)), .int (iI ((lt : Nat) : Int))]))] sz) := by
  refine startW (cc := cX2_rewind) (maxL := 1) (ret := none) (by decide) rfl (Nat.le_of_ble_eq_true rfl) ?_
  intro p e s m below meth c S hr hlocks hE hP A hD hA hS ls hl
  have hx := S.1
  have hb := S.2.1
  have hown := S.2.2.2.1
  have hts := S.2.2.2.2
  have hK := hE.1
  have hl : lv_has ls 1 [(0, .ref xs)] := hl
  refine lv_aload_n hx hb dX2_rewind_0 rfl (lv_at hl 0 rfl) ?_
  refine r_iconst hx hb dX2_rewind_1 ?_
  refine va_put (D := D) (ci := 2) (v := .int (iI 0)) (ty := .int) (C := RX2) (T := TX2) (N := 7) hx hb hts nX2_rewind_X2 tyX2 tyX2_ok nmX2 hown hK hP hD hS 0 rfl rfl 1 (by decide) (hts _ kX2_rewind_20) (fun _ h9 => h9) rfl (by decide +kernel) rfl rfl (Nat.le_of_ble_eq_true rfl) dX2_rewind_2 (fun H locs hP hD hS => ?_)
  have hP : va_P D vwCl [(xs, .inr (2, [.ref xr, .int (iI 0), .int (iI (sg)), .int (iI (fi)), .int (iI (se)), .int (iI ((la : Nat) : Int)), .int (iI ((lt : Nat) : Int))]))] H := hP
  have hD : va_D A [(xs, .inr (2, [.ref xr, .int (iI 0), .int (iI (sg)), .int (iI (fi)), .int (iI (se)), .int (iI ((la : Nat) : Int)), .int (iI ((lt : Nat) : Int))]))] := hD
  exact r_vretX hx hb hr hlocks hP hD hS () rfl (trivial) rfl dX2_rewind_5

theorem kX2_accept_14 : Cond.fieldLink RX2 14 "PricedUndo$Script" "signs" "LPricedUndo$Row;" ∈ wsX2_accept := List.mem_of_getElem? (i := 1) (by decide +kernel)
theorem nX2_accept_X2 : ∀ w ∈ u_ws RX2 TX2 7, w ∈ wsX2_accept := in_lay 10 (by decide +kernel)
theorem kX2_accept_20 : Cond.fieldLink RX2 20 "PricedUndo$Script" "at" "I" ∈ wsX2_accept := List.mem_of_getElem? (i := 2) (by decide +kernel)
set_option maxHeartbeats 4000000 in
set_option maxRecDepth 100000 in
theorem t_accept (l : Launch) (D : va_G) (cI cB cZ cO : ClassId) (sz : Nat) (xs : Nat) (xr : Nat) (xra : Nat) (p1 : Nat) (la : Nat) (lt : Nat) (srl : Nat) (sg : Int) (fi : Int) (se : Int) (src : Nat → Nat) (w1 : Nat) (hrl : srl ≤ 80) (hsc : ∀ k, src k < 256) (hp1 : p1 < 65536) (hw1 : w1 < 256) : Met l yX2_accept wsX2_accept ({ frames := 1, cells := 0, slots := 0, locals := 21 }) (va_Pc [.ref xs, .int (iI ((w1 : Nat) : Int))] (RW D cI cB cZ cO sz [(xs, .inr (2, [.ref xr, .int (iI ((p1 : Nat) : Int)), .int (iI (sg)), .int (iI (fi)), .int (iI (se)), .int (iI ((la : Nat) : Int)), .int (iI ((lt : Nat) : Int))])), (xr, .inr (1, [.ref xra, .int (iI ((srl : Nat) : Int))])), (xra, .inl (cI, 80, .inl (rN (src))))])) (QX D (S := Nat) (fun u => some (.int (iI (bI (tx src srl p1 = w1))))) (fun u => (tx src srl p1 = w1 → u = p1 + 1) ∧ (¬ tx src srl p1 = w1 → u = p1)) (fun u => [(xs, .inr (2, [.ref xr, .int (iI ((u : Nat) : Int)), .int (iI (sg)), .int (iI (fi)), .int (iI (se)), .int (iI ((la : Nat) : Int)), .int (iI ((lt : Nat) : Int))])), (xr, .inr (1, [.ref xra, .int (iI ((srl : Nat) : Int))])), (xra, .inl (cI, 80, .inl (rN (src))))]) (va_A [(xs, .inr (2, [.ref xr, .int (iI ((p1 : Nat) : Int)), .int (iI (sg)), .int (iI (fi)), .int (iI (se)), .int (iI ((la : Nat) : Int)), .int (iI ((lt : Nat) : Int))])), (xr, .inr (1, [.ref xra, .int (iI ((srl : Nat) : Int))])), (xra, .inl (cI, 80, .inl (rN (src))))] sz)) 0 0 (va_A [(xs, .inr (2, [.ref xr, .int (iI ((p1 : Nat) : Int)), .int (iI (sg)), .int (iI (fi)), .int (iI (se)), .int (iI ((la : Nat) : Int)), .int (iI ((lt : Nat) : Int))])), (xr, .inr (1, [.ref xra, .int (iI ((srl : Nat) : Int))])), (xra, .inl (cI, 80, .inl (rN (src))))] sz) := by
  refine startW (cc := cX2_accept) (maxL := 2) (ret := (some .boolean)) (by decide) rfl (Nat.le_of_ble_eq_true rfl) ?_
  intro p e s m below meth c S hr hlocks hE hP A hD hA hS ls hl
  have hx := S.1
  have hb := S.2.1
  have hown := S.2.2.2.1
  have hts := S.2.2.2.2
  have hK := hE.1
  have hl : lv_has ls 2 [(0, .ref xs), (1, .int (iI ((w1 : Nat) : Int)))] := hl
  have htx := @tx_row src srl p1
  have hsp := hsc p1
  refine lv_aload_n hx hb dX2_accept_0 rfl (lv_at hl 0 rfl) ?_
  refine va_get (D := D) (ci := 2) (v := .ref xr) (C := RX2) (T := TX2) (N := 7) hx hb hts nX2_accept_X2 hown hK hP 0 rfl rfl 0 (by decide) (hts _ kX2_accept_14) (fun _ h9 => h9) rfl dX2_accept_1 ?_
  refine lv_aload_n hx hb dX2_accept_4 rfl (lv_at hl 0 rfl) ?_
  refine va_get (D := D) (ci := 2) (v := .int (iI ((p1 : Nat) : Int))) (C := RX2) (T := TX2) (N := 7) hx hb hts nX2_accept_X2 hown hK hP 0 rfl rfl 1 (by decide) (hts _ kX2_accept_20) (fun _ h9 => h9) rfl dX2_accept_5 ?_
  refine callVO (n := 1) (As := [.int (iI ((p1 : Nat) : Int))]) (rest := []) (wc := [(xr, .inr (1, [.ref xra, .int (iI ((srl : Nat) : Int))])), (xra, .inl (cI, 80, .inl (rN (src))))]) S (c_row_codeAt l D cI cB cZ cO xr xra 80 src srl (((p1 : Nat) : Int)) (by first | assumption | (omega)) (by first | assumption | (omega)) (by first | assumption | (omega))) gX2_accept_X1_codeAt rfl ⟨rfl, rfl⟩ (by decide +kernel) ⟨Nat.le_of_ble_eq_true rfl, Nat.le_of_ble_eq_true rfl⟩ hE hP [1, 2] rfl 1 0 rfl rfl rfl hl.1 rfl (Nat.le_of_ble_eq_true rfl) dX2_accept_8 ⟨Nat.le_of_ble_eq_true rfl, Nat.le_of_ble_eq_true rfl⟩ ?_
  refine lv_iload_n hx hb dX2_accept_11 rfl (lv_at hl 1 rfl) ?_
  refine r_icmp_eq (tgt := 17) hx hb (by omega) (by omega) dX2_accept_12 (by decide) (fun c_1 => ?_) (fun c_1 => ?_)
  · skip
    refine lv_aload_n hx hb dX2_accept_17 rfl (lv_at hl 0 rfl) ?_
    refine lv_dup hx hb dX2_accept_18 rfl ?_
    refine va_get (D := D) (ci := 2) (v := .int (iI ((p1 : Nat) : Int))) (C := RX2) (T := TX2) (N := 7) hx hb hts nX2_accept_X2 hown hK hP 0 rfl rfl 1 (by decide) (hts _ kX2_accept_20) (fun _ h9 => h9) rfl dX2_accept_19 ?_
    refine r_iconst hx hb dX2_accept_22 ?_
    refine r_iadd (v := ((p1 + 1 : Nat) : Int)) hx hb (rfl) dX2_accept_23 ?_
    refine va_put (D := D) (ci := 2) (v := .int (iI ((p1 + 1 : Nat) : Int))) (ty := .int) (C := RX2) (T := TX2) (N := 7) hx hb hts nX2_accept_X2 tyX2 tyX2_ok nmX2 hown hK hP hD hS 0 rfl rfl 1 (by decide) (hts _ kX2_accept_20) (fun _ h9 => h9) rfl (by decide +kernel) rfl rfl (Nat.le_of_ble_eq_true rfl) dX2_accept_24 (fun H locs hP hD hS => ?_)
    have hP : va_P D vwCl [(xs, .inr (2, [.ref xr, .int (iI ((p1 + 1 : Nat) : Int)), .int (iI (sg)), .int (iI (fi)), .int (iI (se)), .int (iI ((la : Nat) : Int)), .int (iI ((lt : Nat) : Int))])), (xr, .inr (1, [.ref xra, .int (iI ((srl : Nat) : Int))])), (xra, .inl (cI, 80, .inl (rN (src))))] H := hP
    have hD : va_D A [(xs, .inr (2, [.ref xr, .int (iI ((p1 + 1 : Nat) : Int)), .int (iI (sg)), .int (iI (fi)), .int (iI (se)), .int (iI ((la : Nat) : Int)), .int (iI ((lt : Nat) : Int))])), (xr, .inr (1, [.ref xra, .int (iI ((srl : Nat) : Int))])), (xra, .inl (cI, 80, .inl (rN (src))))] := hD
    refine r_iconst hx hb dX2_accept_27 ?_
    exact r_zretX hx hb hr hlocks hP hD hS (p1 + 1) (congrArg (fun z => some (Value.int (iI z))) (((bI_t (by omega)).symm : 1 = (bI (tx src srl p1 = w1))).symm)) (⟨by omega, by omega⟩) rfl (Or.inr rfl) dX2_accept_28
  · skip
    refine r_iconst hx hb dX2_accept_15 ?_
    exact r_zretX hx hb hr hlocks hP hD hS (p1) (congrArg (fun z => some (Value.int (iI z))) (((bI_f (by omega)).symm : 0 = (bI (tx src srl p1 = w1))).symm)) (⟨by omega, by omega⟩) rfl (Or.inl rfl) dX2_accept_16
