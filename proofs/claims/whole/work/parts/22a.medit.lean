set_option maxHeartbeats 4000000 in
set_option maxRecDepth 100000 in
theorem m_edit_bad (l : Launch) (D : va_G) (cI cB cZ cO : ClassId) (hm : Nat) (m1 : Nat) (m2 : Nat) (m3 : Nat) (m4 : Nat) (m5 : Nat) (m6 : Nat) (m7 : Nat) (m8 : Nat) (pa : Nat) (pb : Nat) (cp : Nat) (ty : Nat) (nx : Nat) (fi : Int) (se : Int) (le : Nat) (bp : Int) (cn : Nat) (en : Nat) (ac : Nat) (cu : Nat) (co : Nat → Nat) (au : Nat → Int) (er : Nat → Nat) (ki : Nat → Nat) (bs : Nat → Int) (x : Int) (y : Int) (hen : en ≤ 16) (rx : rg x) (ry : rg y) (hbad : ¬ (0 ≤ x ∧ x < (en : Int) ∧ 0 ≤ y ∧ y ≤ 6)) : Met l yX5_edit wsX5_edit ({ frames := 2, cells := 0, slots := 0, locals := 43 }) (va_Pc [.ref hm, .int (iI (x)), .int (iI (y))] (RO D cI cB cZ cO [(hm, .inr (5, [.ref m1, .ref m2, .ref m3, .int (iI ((pa : Nat) : Int)), .int (iI ((pb : Nat) : Int)), .ref m4, .int (iI ((cp : Nat) : Int)), .ref m5, .int (iI ((ty : Nat) : Int)), .ref m6, .int (iI ((nx : Nat) : Int)), .int (iI (fi)), .int (iI (se)), .int (iI ((le : Nat) : Int)), .ref m7, .int (iI (bp)), .ref m8])), (m1, .inl (cI, 516, .inl (rI (sF cn en ac cu co au er ki bs))))])) (QO (-1)) 0 0 (fun _ => False) := by
  refine startO (cc := cX5_edit) (maxL := 3) (ret := (some .int)) (by decide) rfl (Nat.le_of_ble_eq_true rfl) ?_
  intro p e s m below meth c S hr hlocks hE hP ls hl
  have hx := S.1
  have hb := S.2.1
  have hown := S.2.2.2.1
  have hts := S.2.2.2.2
  have hK := hE.1
  have hl : lv_has ls 3 [(0, .ref hm), (1, .int (iI (x))), (2, .int (iI (y)))] := hl
  refine lv_aload_n hx hb dX5_edit_0 rfl (lv_at hl 0 rfl) ?_
  refine lv_iload_n hx hb dX5_edit_1 rfl (lv_at hl 1 rfl) ?_
  refine callVO (n := 1) (As := [.int (iI (x))]) (rest := []) (wc := [(hm, .inr (5, [.ref m1, .ref m2, .ref m3, .int (iI ((pa : Nat) : Int)), .int (iI ((pb : Nat) : Int)), .ref m4, .int (iI ((cp : Nat) : Int)), .ref m5, .int (iI ((ty : Nat) : Int)), .ref m6, .int (iI ((nx : Nat) : Int)), .int (iI (fi)), .int (iI (se)), .int (iI ((le : Nat) : Int)), .ref m7, .int (iI (bp)), .ref m8])), (m1, .inl (cI, 516, .inl (rI (sF cn en ac cu co au er ki bs))))]) S (m_isEdit l D cI cB cZ cO hm m1 m2 m3 m4 m5 m6 m7 m8 pa pb cp ty nx fi se le bp cn en ac cu co au er ki bs x (by first | assumption | (omega)) (by first | assumption | (omega))) gX5_edit_X5_isEdit rfl ⟨rfl, rfl⟩ (by decide +kernel) ⟨Nat.le_of_ble_eq_true rfl, Nat.le_of_ble_eq_true rfl⟩ hE hP [0, 1] rfl 5 0 rfl rfl rfl hl.1 rfl (Nat.le_of_ble_eq_true rfl) dX5_edit_2 ⟨Nat.le_of_ble_eq_true rfl, Nat.le_of_ble_eq_true rfl⟩ ?_
  refine r_ifb_eq (tgt := 18) hx hb dX5_edit_5 (by decide) (fun c_1 => ?_) (fun c_1 => ?_)
  · skip
    refine r_iconst hx hb dX5_edit_18 ?_
    exact r_iretO hx hb hr hlocks (rfl) dX5_edit_19
  · skip
    refine lv_iload_n hx hb dX5_edit_8 rfl (lv_at hl 2 rfl) ?_
    refine r_iconst hx hb dX5_edit_9 ?_
    refine r_bipush hx hb dX5_edit_10 (by decide) ?_
    rw [show (0 : Int) = (0) from by omega]
    rw [show (6 : Int) = (6) from by omega]
    refine callSO (n := 3) (As := [.int (iI (y)), .int (iI (0)), .int (iI (6))]) (rest := []) (wc := []) S (m_in l D cI cB cZ cO y 0 6 (by first | assumption | (omega)) (by first | assumption | (omega)) (by first | assumption | (omega))) gX5_edit_X5_in rfl ⟨rfl, rfl⟩ (by decide +kernel) ⟨Nat.le_of_ble_eq_true rfl, Nat.le_of_ble_eq_true rfl⟩ hE hP [] rfl rfl hl.1 rfl (Nat.le_of_ble_eq_true rfl) dX5_edit_12 ⟨Nat.le_of_ble_eq_true rfl, Nat.le_of_ble_eq_true rfl⟩ ?_
    refine r_ifb_ne (tgt := 20) hx hb dX5_edit_15 (by decide) (fun c_2 => ?_) (fun c_2 => ?_)
    · skip
      exfalso; omega
    · skip
      refine r_iconst hx hb dX5_edit_18 ?_
      exact r_iretO hx hb hr hlocks (rfl) dX5_edit_19

theorem kX5_edit_7 : Cond.fieldLink RX5 7 "PricedUndoModel" "s" "[I" ∈ wsX5_edit := by decide +kernel
theorem nX5_edit_X5 : ∀ w ∈ u_ws RX5 TX5 17, w ∈ wsX5_edit := by decide +kernel
set_option maxHeartbeats 4000000 in
set_option maxRecDepth 100000 in
theorem m_edit_0 (l : Launch) (D : va_G) (cI cB cZ cO : ClassId) (sz : Nat) (hm : Nat) (m1 : Nat) (m2 : Nat) (m3 : Nat) (m4 : Nat) (m5 : Nat) (m6 : Nat) (m7 : Nat) (m8 : Nat) (pa : Nat) (pb : Nat) (cp : Nat) (ty : Nat) (nx : Nat) (fi : Int) (se : Int) (le : Nat) (bp : Int) (cn : Nat) (en : Nat) (ac : Nat) (cu : Nat) (co : Nat → Nat) (au : Nat → Int) (er : Nat → Nat) (ki : Nat → Nat) (bs : Nat → Int) (re : Nat → Nat) (ba : Nat → Nat) (e1 : Nat) (hcn : cn ≤ 160) (hen : en ≤ 16) (hau : ∀ k, -1 ≤ au k ∧ au k < 16) (her : ∀ k, er k < 65536) (hbs : ∀ k, -1 ≤ bs k ∧ bs k < 16) (hki : ∀ k, ki k ≤ 1) (hre : ∀ k, re k < 65536) (hrq : RQ au er ki bs cn en ba) (hac : ac < 65536) (he1 : e1 < en) : Met l yX5_edit wsX5_edit ({ frames := 2, cells := 0, slots := 0, locals := 43 }) (va_Pc [.ref hm, .int (iI ((e1 : Nat) : Int)), .int (iI 0)] (RW D cI cB cZ cO sz [(hm, .inr (5, [.ref m1, .ref m2, .ref m3, .int (iI ((pa : Nat) : Int)), .int (iI ((pb : Nat) : Int)), .ref m4, .int (iI ((cp : Nat) : Int)), .ref m5, .int (iI ((ty : Nat) : Int)), .ref m6, .int (iI ((nx : Nat) : Int)), .int (iI (fi)), .int (iI (se)), .int (iI ((le : Nat) : Int)), .ref m7, .int (iI (bp)), .ref m8])), (m1, .inl (cI, 516, .inl (rI (sF cn en ac cu co au er ki bs)))), (m6, .inl (cI, 16, .inl (rN (re))))])) (QX D (S := (Nat → Nat)) (fun u => some (.int (iI ((ki e1 : Nat) : Int)))) (fun u => (∀ k, u k < 65536) ∧ (∀ k, k < en → u k = ba k)) (fun u => [(hm, .inr (5, [.ref m1, .ref m2, .ref m3, .int (iI ((pa : Nat) : Int)), .int (iI ((pb : Nat) : Int)), .ref m4, .int (iI ((cp : Nat) : Int)), .ref m5, .int (iI ((ty : Nat) : Int)), .ref m6, .int (iI ((nx : Nat) : Int)), .int (iI (fi)), .int (iI (se)), .int (iI ((le : Nat) : Int)), .ref m7, .int (iI (bp)), .ref m8])), (m1, .inl (cI, 516, .inl (rI (sF cn en ac cu co au er ki bs)))), (m6, .inl (cI, 16, .inl (rN (u))))]) (va_A [(hm, .inr (5, [.ref m1, .ref m2, .ref m3, .int (iI ((pa : Nat) : Int)), .int (iI ((pb : Nat) : Int)), .ref m4, .int (iI ((cp : Nat) : Int)), .ref m5, .int (iI ((ty : Nat) : Int)), .ref m6, .int (iI ((nx : Nat) : Int)), .int (iI (fi)), .int (iI (se)), .int (iI ((le : Nat) : Int)), .ref m7, .int (iI (bp)), .ref m8])), (m1, .inl (cI, 516, .inl (rI (sF cn en ac cu co au er ki bs)))), (m6, .inl (cI, 16, .inl (rN (re))))] sz)) 0 0 (va_A [(hm, .inr (5, [.ref m1, .ref m2, .ref m3, .int (iI ((pa : Nat) : Int)), .int (iI ((pb : Nat) : Int)), .ref m4, .int (iI ((cp : Nat) : Int)), .ref m5, .int (iI ((ty : Nat) : Int)), .ref m6, .int (iI ((nx : Nat) : Int)), .int (iI (fi)), .int (iI (se)), .int (iI ((le : Nat) : Int)), .ref m7, .int (iI (bp)), .ref m8])), (m1, .inl (cI, 516, .inl (rI (sF cn en ac cu co au er ki bs)))), (m6, .inl (cI, 16, .inl (rN (re))))] sz) := by
  refine startW (cc := cX5_edit) (maxL := 3) (ret := (some .int)) (by decide) rfl (Nat.le_of_ble_eq_true rfl) ?_
  intro p e s m below meth c S hr hlocks hE hP A hD hA hS ls hl
  have hx := S.1
  have hb := S.2.1
  have hown := S.2.2.2.1
  have hts := S.2.2.2.2
  have hK := hE.1
  have hl : lv_has ls 3 [(0, .ref hm), (1, .int (iI ((e1 : Nat) : Int))), (2, .int (iI 0))] := hl
  refine lv_aload_n hx hb dX5_edit_0 rfl (lv_at hl 0 rfl) ?_
  refine lv_iload_n hx hb dX5_edit_1 rfl (lv_at hl 1 rfl) ?_
  refine callVO (n := 1) (As := [.int (iI ((e1 : Nat) : Int))]) (rest := []) (wc := [(hm, .inr (5, [.ref m1, .ref m2, .ref m3, .int (iI ((pa : Nat) : Int)), .int (iI ((pb : Nat) : Int)), .ref m4, .int (iI ((cp : Nat) : Int)), .ref m5, .int (iI ((ty : Nat) : Int)), .ref m6, .int (iI ((nx : Nat) : Int)), .int (iI (fi)), .int (iI (se)), .int (iI ((le : Nat) : Int)), .ref m7, .int (iI (bp)), .ref m8])), (m1, .inl (cI, 516, .inl (rI (sF cn en ac cu co au er ki bs))))]) S (m_isEdit l D cI cB cZ cO hm m1 m2 m3 m4 m5 m6 m7 m8 pa pb cp ty nx fi se le bp cn en ac cu co au er ki bs (((e1 : Nat) : Int)) (by first | assumption | (omega)) (by first | assumption | (omega))) gX5_edit_X5_isEdit rfl ⟨rfl, rfl⟩ (by decide +kernel) ⟨Nat.le_of_ble_eq_true rfl, Nat.le_of_ble_eq_true rfl⟩ hE hP [0, 1] rfl 5 0 rfl rfl rfl hl.1 rfl (Nat.le_of_ble_eq_true rfl) dX5_edit_2 ⟨Nat.le_of_ble_eq_true rfl, Nat.le_of_ble_eq_true rfl⟩ ?_
  refine r_ifb_eq (tgt := 18) hx hb dX5_edit_5 (by decide) (fun c_1 => ?_) (fun c_1 => ?_)
  · skip
    exfalso; omega
  · skip
    refine lv_iload_n hx hb dX5_edit_8 rfl (lv_at hl 2 rfl) ?_
    refine r_iconst hx hb dX5_edit_9 ?_
    refine r_bipush hx hb dX5_edit_10 (by decide) ?_
    rw [show (0 : Int) = (0) from by omega]
    rw [show (0 : Int) = (0) from by omega]
    rw [show (6 : Int) = (6) from by omega]
    refine callSO (n := 3) (As := [.int (iI (0)), .int (iI (0)), .int (iI (6))]) (rest := []) (wc := []) S (m_in l D cI cB cZ cO 0 0 6 (by first | assumption | (omega)) (by first | assumption | (omega)) (by first | assumption | (omega))) gX5_edit_X5_in rfl ⟨rfl, rfl⟩ (by decide +kernel) ⟨Nat.le_of_ble_eq_true rfl, Nat.le_of_ble_eq_true rfl⟩ hE hP [] rfl rfl hl.1 rfl (Nat.le_of_ble_eq_true rfl) dX5_edit_12 ⟨Nat.le_of_ble_eq_true rfl, Nat.le_of_ble_eq_true rfl⟩ ?_
    refine r_ifb_ne (tgt := 20) hx hb dX5_edit_15 (by decide) (fun c_2 => ?_) (fun c_2 => ?_)
    · skip
      refine lv_aload_n hx hb dX5_edit_20 rfl (lv_at hl 0 rfl) ?_
      refine callVX (n := 0) (As := []) (rest := []) (wc := [(hm, .inr (5, [.ref m1, .ref m2, .ref m3, .int (iI ((pa : Nat) : Int)), .int (iI ((pb : Nat) : Int)), .ref m4, .int (iI ((cp : Nat) : Int)), .ref m5, .int (iI ((ty : Nat) : Int)), .ref m6, .int (iI ((nx : Nat) : Int)), .int (iI (fi)), .int (iI (se)), .int (iI ((le : Nat) : Int)), .ref m7, .int (iI (bp)), .ref m8])), (m1, .inl (cI, 516, .inl (rI (sF cn en ac cu co au er ki bs)))), (m6, .inl (cI, 16, .inl (rN (re))))]) (wr := []) (ws2 := fun u => [(hm, .inr (5, [.ref m1, .ref m2, .ref m3, .int (iI ((pa : Nat) : Int)), .int (iI ((pb : Nat) : Int)), .ref m4, .int (iI ((cp : Nat) : Int)), .ref m5, .int (iI ((ty : Nat) : Int)), .ref m6, .int (iI ((nx : Nat) : Int)), .int (iI (fi)), .int (iI (se)), .int (iI ((le : Nat) : Int)), .ref m7, .int (iI (bp)), .ref m8])), (m1, .inl (cI, 516, .inl (rI (sF cn en ac cu co au er ki bs)))), (m6, .inl (cI, 16, .inl (rN (u))))]) S hE hP hD hS hA (m_findsRests l D cI cB cZ cO s.heap.size hm m1 m2 m3 m4 m5 m6 m7 m8 pa pb cp ty nx fi se le bp cn en ac cu co au er ki bs re ba (by first | assumption | (omega)) (by first | assumption | (omega)) (by first | assumption | (omega)) (by first | assumption | (omega)) (by first | assumption | (omega)) (by first | assumption | (omega)) (by first | assumption | (omega)) (by first | assumption | (omega))) gX5_edit_X5_findsRests rfl ⟨rfl, rfl⟩ (by decide +kernel) ⟨Nat.le_of_ble_eq_true rfl, Nat.le_of_ble_eq_true rfl⟩ [0, 1, 2] [] [0, 1, 2] rfl (by decide) rfl (by decide) (by decide) (by decide) (fun u => rfl) 5 0 rfl rfl rfl hl.1 rfl (Nat.le_of_ble_eq_true rfl) dX5_edit_21 ⟨Nat.le_of_ble_eq_true rfl, Nat.le_of_ble_eq_true rfl⟩ (fun u u21p H locs hP hD hS => ?_)
      generalize u = re2_u21 at u21p hP hD ⊢
      obtain ⟨hre2_u21, hrb_u21⟩ := u21p
      have hre2_u21 : ∀ k, re2_u21 k < 65536 := hre2_u21
      have hrb_u21 : ∀ k, k < en → re2_u21 k = ba k := hrb_u21
      have hP : va_P D vwCl [(hm, .inr (5, [.ref m1, .ref m2, .ref m3, .int (iI ((pa : Nat) : Int)), .int (iI ((pb : Nat) : Int)), .ref m4, .int (iI ((cp : Nat) : Int)), .ref m5, .int (iI ((ty : Nat) : Int)), .ref m6, .int (iI ((nx : Nat) : Int)), .int (iI (fi)), .int (iI (se)), .int (iI ((le : Nat) : Int)), .ref m7, .int (iI (bp)), .ref m8])), (m1, .inl (cI, 516, .inl (rI (sF cn en ac cu co au er ki bs)))), (m6, .inl (cI, 16, .inl (rN (re2_u21))))] H := hP
      have hD : va_D A [(hm, .inr (5, [.ref m1, .ref m2, .ref m3, .int (iI ((pa : Nat) : Int)), .int (iI ((pb : Nat) : Int)), .ref m4, .int (iI ((cp : Nat) : Int)), .ref m5, .int (iI ((ty : Nat) : Int)), .ref m6, .int (iI ((nx : Nat) : Int)), .int (iI (fi)), .int (iI (se)), .int (iI ((le : Nat) : Int)), .ref m7, .int (iI (bp)), .ref m8])), (m1, .inl (cI, 516, .inl (rI (sF cn en ac cu co au er ki bs)))), (m6, .inl (cI, 16, .inl (rN (re2_u21))))] := hD
      refine W.eq (g2 := F0 m 24 ls []) rfl ?_
      refine lv_iload_n hx hb dX5_edit_24 rfl (lv_at hl 2 rfl) ?_
      refine lv_tableIn (off := 39) (tgt := 64) hx hb dX5_edit_25 (by rw [iI_toInt ⟨by decide, by decide⟩]; decide) (by rw [iI_toInt ⟨by decide, by decide⟩]; decide) (by rw [iI_toInt ⟨by decide, by decide⟩]; rfl) (by decide) ?_
      refine lv_aload_n hx hb dX5_edit_64 rfl (lv_at hl 0 rfl) ?_
      refine va_get (D := D) (ci := 5) (v := .ref m1) (C := RX5) (T := TX5) (N := 17) hx hb hts nX5_edit_X5 hown hK hP 0 rfl rfl 0 (by decide) (hts _ kX5_edit_7) (fun _ h9 => h9) rfl dX5_edit_65 ?_
      refine r_sipush hx hb dX5_edit_68 (by decide) ?_
      refine lv_iload_n hx hb dX5_edit_71 rfl (lv_at hl 1 rfl) ?_
      refine r_iadd (v := ((484 + e1 : Nat) : Int)) hx hb (rfl) dX5_edit_72 ?_
      refine r_ialdV (v := ((ki e1 : Nat) : Int)) hx hb hK hP 1 0 rfl rfl (484 + e1) (rfl) (by omega) (by decide) (sF_ki (by omega)) dX5_edit_73 ?_
      exact r_iretX hx hb hr hlocks hP hD hS (re2_u21) (rfl) (⟨by assumption, by assumption⟩) rfl dX5_edit_74
    · skip
      exfalso; omega

set_option maxHeartbeats 4000000 in
set_option maxRecDepth 100000 in
theorem m_edit_1 (l : Launch) (D : va_G) (cI cB cZ cO : ClassId) (sz : Nat) (hm : Nat) (m1 : Nat) (m2 : Nat) (m3 : Nat) (m4 : Nat) (m5 : Nat) (m6 : Nat) (m7 : Nat) (m8 : Nat) (pa : Nat) (pb : Nat) (cp : Nat) (ty : Nat) (nx : Nat) (fi : Int) (se : Int) (le : Nat) (bp : Int) (cn : Nat) (en : Nat) (ac : Nat) (cu : Nat) (co : Nat → Nat) (au : Nat → Int) (er : Nat → Nat) (ki : Nat → Nat) (bs : Nat → Int) (re : Nat → Nat) (ba : Nat → Nat) (e1 : Nat) (hcn : cn ≤ 160) (hen : en ≤ 16) (hau : ∀ k, -1 ≤ au k ∧ au k < 16) (her : ∀ k, er k < 65536) (hbs : ∀ k, -1 ≤ bs k ∧ bs k < 16) (hki : ∀ k, ki k ≤ 1) (hre : ∀ k, re k < 65536) (hrq : RQ au er ki bs cn en ba) (hac : ac < 65536) (he1 : e1 < en) : Met l yX5_edit wsX5_edit ({ frames := 2, cells := 0, slots := 0, locals := 43 }) (va_Pc [.ref hm, .int (iI ((e1 : Nat) : Int)), .int (iI 1)] (RW D cI cB cZ cO sz [(hm, .inr (5, [.ref m1, .ref m2, .ref m3, .int (iI ((pa : Nat) : Int)), .int (iI ((pb : Nat) : Int)), .ref m4, .int (iI ((cp : Nat) : Int)), .ref m5, .int (iI ((ty : Nat) : Int)), .ref m6, .int (iI ((nx : Nat) : Int)), .int (iI (fi)), .int (iI (se)), .int (iI ((le : Nat) : Int)), .ref m7, .int (iI (bp)), .ref m8])), (m1, .inl (cI, 516, .inl (rI (sF cn en ac cu co au er ki bs)))), (m6, .inl (cI, 16, .inl (rN (re))))])) (QX D (S := (Nat → Nat)) (fun u => some (.int (iI (bI (ac.testBit e1 = true))))) (fun u => (∀ k, u k < 65536) ∧ (∀ k, k < en → u k = ba k)) (fun u => [(hm, .inr (5, [.ref m1, .ref m2, .ref m3, .int (iI ((pa : Nat) : Int)), .int (iI ((pb : Nat) : Int)), .ref m4, .int (iI ((cp : Nat) : Int)), .ref m5, .int (iI ((ty : Nat) : Int)), .ref m6, .int (iI ((nx : Nat) : Int)), .int (iI (fi)), .int (iI (se)), .int (iI ((le : Nat) : Int)), .ref m7, .int (iI (bp)), .ref m8])), (m1, .inl (cI, 516, .inl (rI (sF cn en ac cu co au er ki bs)))), (m6, .inl (cI, 16, .inl (rN (u))))]) (va_A [(hm, .inr (5, [.ref m1, .ref m2, .ref m3, .int (iI ((pa : Nat) : Int)), .int (iI ((pb : Nat) : Int)), .ref m4, .int (iI ((cp : Nat) : Int)), .ref m5, .int (iI ((ty : Nat) : Int)), .ref m6, .int (iI ((nx : Nat) : Int)), .int (iI (fi)), .int (iI (se)), .int (iI ((le : Nat) : Int)), .ref m7, .int (iI (bp)), .ref m8])), (m1, .inl (cI, 516, .inl (rI (sF cn en ac cu co au er ki bs)))), (m6, .inl (cI, 16, .inl (rN (re))))] sz)) 0 0 (va_A [(hm, .inr (5, [.ref m1, .ref m2, .ref m3, .int (iI ((pa : Nat) : Int)), .int (iI ((pb : Nat) : Int)), .ref m4, .int (iI ((cp : Nat) : Int)), .ref m5, .int (iI ((ty : Nat) : Int)), .ref m6, .int (iI ((nx : Nat) : Int)), .int (iI (fi)), .int (iI (se)), .int (iI ((le : Nat) : Int)), .ref m7, .int (iI (bp)), .ref m8])), (m1, .inl (cI, 516, .inl (rI (sF cn en ac cu co au er ki bs)))), (m6, .inl (cI, 16, .inl (rN (re))))] sz) := by
  refine startW (cc := cX5_edit) (maxL := 3) (ret := (some .int)) (by decide) rfl (Nat.le_of_ble_eq_true rfl) ?_
  intro p e s m below meth c S hr hlocks hE hP A hD hA hS ls hl
  have hx := S.1
  have hb := S.2.1
  have hown := S.2.2.2.1
  have hts := S.2.2.2.2
  have hK := hE.1
  have hl : lv_has ls 3 [(0, .ref hm), (1, .int (iI ((e1 : Nat) : Int))), (2, .int (iI 1))] := hl
  refine lv_aload_n hx hb dX5_edit_0 rfl (lv_at hl 0 rfl) ?_
  refine lv_iload_n hx hb dX5_edit_1 rfl (lv_at hl 1 rfl) ?_
  refine callVO (n := 1) (As := [.int (iI ((e1 : Nat) : Int))]) (rest := []) (wc := [(hm, .inr (5, [.ref m1, .ref m2, .ref m3, .int (iI ((pa : Nat) : Int)), .int (iI ((pb : Nat) : Int)), .ref m4, .int (iI ((cp : Nat) : Int)), .ref m5, .int (iI ((ty : Nat) : Int)), .ref m6, .int (iI ((nx : Nat) : Int)), .int (iI (fi)), .int (iI (se)), .int (iI ((le : Nat) : Int)), .ref m7, .int (iI (bp)), .ref m8])), (m1, .inl (cI, 516, .inl (rI (sF cn en ac cu co au er ki bs))))]) S (m_isEdit l D cI cB cZ cO hm m1 m2 m3 m4 m5 m6 m7 m8 pa pb cp ty nx fi se le bp cn en ac cu co au er ki bs (((e1 : Nat) : Int)) (by first | assumption | (first | omega | assumption)) (by first | assumption | (first | omega | assumption))) gX5_edit_X5_isEdit rfl ⟨rfl, rfl⟩ (by decide +kernel) ⟨Nat.le_of_ble_eq_true rfl, Nat.le_of_ble_eq_true rfl⟩ hE hP [0, 1] rfl 5 0 rfl rfl rfl hl.1 rfl (Nat.le_of_ble_eq_true rfl) dX5_edit_2 ⟨Nat.le_of_ble_eq_true rfl, Nat.le_of_ble_eq_true rfl⟩ ?_
  refine r_ifb_eq (tgt := 18) hx hb dX5_edit_5 (by decide) (fun c_1 => ?_) (fun c_1 => ?_)
  · skip
    exfalso; omega
  · skip
    refine lv_iload_n hx hb dX5_edit_8 rfl (lv_at hl 2 rfl) ?_
    refine r_iconst hx hb dX5_edit_9 ?_
    refine r_bipush hx hb dX5_edit_10 (by decide) ?_
    rw [show (1 : Int) = (1) from by first | omega | assumption]
    rw [show (0 : Int) = (0) from by first | omega | assumption]
    rw [show (6 : Int) = (6) from by first | omega | assumption]
    refine callSO (n := 3) (As := [.int (iI (1)), .int (iI (0)), .int (iI (6))]) (rest := []) (wc := []) S (m_in l D cI cB cZ cO 1 0 6 (by first | assumption | (first | omega | assumption)) (by first | assumption | (first | omega | assumption)) (by first | assumption | (first | omega | assumption))) gX5_edit_X5_in rfl ⟨rfl, rfl⟩ (by decide +kernel) ⟨Nat.le_of_ble_eq_true rfl, Nat.le_of_ble_eq_true rfl⟩ hE hP [] rfl rfl hl.1 rfl (Nat.le_of_ble_eq_true rfl) dX5_edit_12 ⟨Nat.le_of_ble_eq_true rfl, Nat.le_of_ble_eq_true rfl⟩ ?_
    refine r_ifb_ne (tgt := 20) hx hb dX5_edit_15 (by decide) (fun c_2 => ?_) (fun c_2 => ?_)
    · skip
      refine lv_aload_n hx hb dX5_edit_20 rfl (lv_at hl 0 rfl) ?_
      refine callVX (n := 0) (As := []) (rest := []) (wc := [(hm, .inr (5, [.ref m1, .ref m2, .ref m3, .int (iI ((pa : Nat) : Int)), .int (iI ((pb : Nat) : Int)), .ref m4, .int (iI ((cp : Nat) : Int)), .ref m5, .int (iI ((ty : Nat) : Int)), .ref m6, .int (iI ((nx : Nat) : Int)), .int (iI (fi)), .int (iI (se)), .int (iI ((le : Nat) : Int)), .ref m7, .int (iI (bp)), .ref m8])), (m1, .inl (cI, 516, .inl (rI (sF cn en ac cu co au er ki bs)))), (m6, .inl (cI, 16, .inl (rN (re))))]) (wr := []) (ws2 := fun u => [(hm, .inr (5, [.ref m1, .ref m2, .ref m3, .int (iI ((pa : Nat) : Int)), .int (iI ((pb : Nat) : Int)), .ref m4, .int (iI ((cp : Nat) : Int)), .ref m5, .int (iI ((ty : Nat) : Int)), .ref m6, .int (iI ((nx : Nat) : Int)), .int (iI (fi)), .int (iI (se)), .int (iI ((le : Nat) : Int)), .ref m7, .int (iI (bp)), .ref m8])), (m1, .inl (cI, 516, .inl (rI (sF cn en ac cu co au er ki bs)))), (m6, .inl (cI, 16, .inl (rN (u))))]) S hE hP hD hS hA (m_findsRests l D cI cB cZ cO s.heap.size hm m1 m2 m3 m4 m5 m6 m7 m8 pa pb cp ty nx fi se le bp cn en ac cu co au er ki bs re ba (by first | assumption | (first | omega | assumption)) (by first | assumption | (first | omega | assumption)) (by first | assumption | (first | omega | assumption)) (by first | assumption | (first | omega | assumption)) (by first | assumption | (first | omega | assumption)) (by first | assumption | (first | omega | assumption)) (by first | assumption | (first | omega | assumption)) (by first | assumption | (first | omega | assumption))) gX5_edit_X5_findsRests rfl ⟨rfl, rfl⟩ (by decide +kernel) ⟨Nat.le_of_ble_eq_true rfl, Nat.le_of_ble_eq_true rfl⟩ [0, 1, 2] [] [0, 1, 2] rfl (by decide) rfl (by decide) (by decide) (by decide) (fun u => rfl) 5 0 rfl rfl rfl hl.1 rfl (Nat.le_of_ble_eq_true rfl) dX5_edit_21 ⟨Nat.le_of_ble_eq_true rfl, Nat.le_of_ble_eq_true rfl⟩ (fun u u21p H locs hP hD hS => ?_)
      generalize u = re2_u21 at u21p hP hD ⊢
      obtain ⟨hre2_u21, hrb_u21⟩ := u21p
      have hre2_u21 : ∀ k, re2_u21 k < 65536 := hre2_u21
      have hrb_u21 : ∀ k, k < en → re2_u21 k = ba k := hrb_u21
      have hP : va_P D vwCl [(hm, .inr (5, [.ref m1, .ref m2, .ref m3, .int (iI ((pa : Nat) : Int)), .int (iI ((pb : Nat) : Int)), .ref m4, .int (iI ((cp : Nat) : Int)), .ref m5, .int (iI ((ty : Nat) : Int)), .ref m6, .int (iI ((nx : Nat) : Int)), .int (iI (fi)), .int (iI (se)), .int (iI ((le : Nat) : Int)), .ref m7, .int (iI (bp)), .ref m8])), (m1, .inl (cI, 516, .inl (rI (sF cn en ac cu co au er ki bs)))), (m6, .inl (cI, 16, .inl (rN (re2_u21))))] H := hP
      have hD : va_D A [(hm, .inr (5, [.ref m1, .ref m2, .ref m3, .int (iI ((pa : Nat) : Int)), .int (iI ((pb : Nat) : Int)), .ref m4, .int (iI ((cp : Nat) : Int)), .ref m5, .int (iI ((ty : Nat) : Int)), .ref m6, .int (iI ((nx : Nat) : Int)), .int (iI (fi)), .int (iI (se)), .int (iI ((le : Nat) : Int)), .ref m7, .int (iI (bp)), .ref m8])), (m1, .inl (cI, 516, .inl (rI (sF cn en ac cu co au er ki bs)))), (m6, .inl (cI, 16, .inl (rN (re2_u21))))] := hD
      refine W.eq (g2 := F0 m 24 ls []) rfl ?_
      refine lv_iload_n hx hb dX5_edit_24 rfl (lv_at hl 2 rfl) ?_
      refine lv_tableIn (off := 50) (tgt := 75) hx hb dX5_edit_25 (by rw [iI_toInt ⟨by decide, by decide⟩]; decide) (by rw [iI_toInt ⟨by decide, by decide⟩]; decide) (by rw [iI_toInt ⟨by decide, by decide⟩]; rfl) (by decide) ?_
      refine lv_aload_n hx hb dX5_edit_75 rfl (lv_at hl 0 rfl) ?_
      refine lv_iload_n hx hb dX5_edit_76 rfl (lv_at hl 1 rfl) ?_
      refine callVO (n := 1) (As := [.int (iI ((e1 : Nat) : Int))]) (rest := []) (wc := [(hm, .inr (5, [.ref m1, .ref m2, .ref m3, .int (iI ((pa : Nat) : Int)), .int (iI ((pb : Nat) : Int)), .ref m4, .int (iI ((cp : Nat) : Int)), .ref m5, .int (iI ((ty : Nat) : Int)), .ref m6, .int (iI ((nx : Nat) : Int)), .int (iI (fi)), .int (iI (se)), .int (iI ((le : Nat) : Int)), .ref m7, .int (iI (bp)), .ref m8])), (m1, .inl (cI, 516, .inl (rI (sF cn en ac cu co au er ki bs))))]) S (m_isActive l D cI cB cZ cO hm m1 m2 m3 m4 m5 m6 m7 m8 pa pb cp ty nx fi se le bp cn en ac cu co au er ki bs e1 (by first | assumption | (first | omega | assumption)) (by first | assumption | (first | omega | assumption))) gX5_edit_X5_isActive rfl ⟨rfl, rfl⟩ (by decide +kernel) ⟨Nat.le_of_ble_eq_true rfl, Nat.le_of_ble_eq_true rfl⟩ hE hP [0, 1] rfl 5 0 rfl rfl rfl hl.1 rfl (Nat.le_of_ble_eq_true rfl) dX5_edit_77 ⟨Nat.le_of_ble_eq_true rfl, Nat.le_of_ble_eq_true rfl⟩ ?_
      refine r_ifb_eq (tgt := 87) hx hb dX5_edit_80 (by decide) (fun c_4 => ?_) (fun c_4 => ?_)
      · skip
        refine r_iconst hx hb dX5_edit_87 ?_
        exact r_iretX hx hb hr hlocks hP hD hS (re2_u21) (congrArg (fun z => some (Value.int (iI z))) (((bI_f (by first | omega | assumption)).symm : 0 = (bI (ac.testBit e1 = true))).symm)) (⟨by assumption, by assumption⟩) rfl dX5_edit_88
      · skip
        refine r_iconst hx hb dX5_edit_83 ?_
        refine lv_goto (tgt := 88) hx hb dX5_edit_84 (by decide) ?_
        exact r_iretX hx hb hr hlocks hP hD hS (re2_u21) (congrArg (fun z => some (Value.int (iI z))) (((bI_t (by first | omega | assumption)).symm : 1 = (bI (ac.testBit e1 = true))).symm)) (⟨by assumption, by assumption⟩) rfl dX5_edit_88
    · skip
      exfalso; omega

set_option maxHeartbeats 4000000 in
set_option maxRecDepth 100000 in
theorem m_edit_2 (l : Launch) (D : va_G) (cI cB cZ cO : ClassId) (sz : Nat) (hm : Nat) (m1 : Nat) (m2 : Nat) (m3 : Nat) (m4 : Nat) (m5 : Nat) (m6 : Nat) (m7 : Nat) (m8 : Nat) (pa : Nat) (pb : Nat) (cp : Nat) (ty : Nat) (nx : Nat) (fi : Int) (se : Int) (le : Nat) (bp : Int) (cn : Nat) (en : Nat) (ac : Nat) (cu : Nat) (co : Nat → Nat) (au : Nat → Int) (er : Nat → Nat) (ki : Nat → Nat) (bs : Nat → Int) (re : Nat → Nat) (ba : Nat → Nat) (e1 : Nat) (hcn : cn ≤ 160) (hen : en ≤ 16) (hau : ∀ k, -1 ≤ au k ∧ au k < 16) (her : ∀ k, er k < 65536) (hbs : ∀ k, -1 ≤ bs k ∧ bs k < 16) (hki : ∀ k, ki k ≤ 1) (hre : ∀ k, re k < 65536) (hrq : RQ au er ki bs cn en ba) (hac : ac < 65536) (he1 : e1 < en) (hk0 : ki e1 = 0 → ∀ k, k < cn → (er k).testBit e1 = false) (hk1 : ¬ ki e1 = 0 → ∀ k, k < cn → ¬ au k = (e1 : Int)) : Met l yX5_edit wsX5_edit ({ frames := 2, cells := 0, slots := 0, locals := 43 }) (va_Pc [.ref hm, .int (iI ((e1 : Nat) : Int)), .int (iI 2)] (RW D cI cB cZ cO sz [(hm, .inr (5, [.ref m1, .ref m2, .ref m3, .int (iI ((pa : Nat) : Int)), .int (iI ((pb : Nat) : Int)), .ref m4, .int (iI ((cp : Nat) : Int)), .ref m5, .int (iI ((ty : Nat) : Int)), .ref m6, .int (iI ((nx : Nat) : Int)), .int (iI (fi)), .int (iI (se)), .int (iI ((le : Nat) : Int)), .ref m7, .int (iI (bp)), .ref m8])), (m1, .inl (cI, 516, .inl (rI (sF cn en ac cu co au er ki bs)))), (m6, .inl (cI, 16, .inl (rN (re))))])) (QX D (S := (Nat → Nat)) (fun u => some (.int (iI ((cnt (tch (omF au) er e1) cn : Nat) : Int)))) (fun u => (∀ k, u k < 65536) ∧ (∀ k, k < en → u k = ba k)) (fun u => [(hm, .inr (5, [.ref m1, .ref m2, .ref m3, .int (iI ((pa : Nat) : Int)), .int (iI ((pb : Nat) : Int)), .ref m4, .int (iI ((cp : Nat) : Int)), .ref m5, .int (iI ((ty : Nat) : Int)), .ref m6, .int (iI ((nx : Nat) : Int)), .int (iI (fi)), .int (iI (se)), .int (iI ((le : Nat) : Int)), .ref m7, .int (iI (bp)), .ref m8])), (m1, .inl (cI, 516, .inl (rI (sF cn en ac cu co au er ki bs)))), (m6, .inl (cI, 16, .inl (rN (u))))]) (va_A [(hm, .inr (5, [.ref m1, .ref m2, .ref m3, .int (iI ((pa : Nat) : Int)), .int (iI ((pb : Nat) : Int)), .ref m4, .int (iI ((cp : Nat) : Int)), .ref m5, .int (iI ((ty : Nat) : Int)), .ref m6, .int (iI ((nx : Nat) : Int)), .int (iI (fi)), .int (iI (se)), .int (iI ((le : Nat) : Int)), .ref m7, .int (iI (bp)), .ref m8])), (m1, .inl (cI, 516, .inl (rI (sF cn en ac cu co au er ki bs)))), (m6, .inl (cI, 16, .inl (rN (re))))] sz)) 0 0 (va_A [(hm, .inr (5, [.ref m1, .ref m2, .ref m3, .int (iI ((pa : Nat) : Int)), .int (iI ((pb : Nat) : Int)), .ref m4, .int (iI ((cp : Nat) : Int)), .ref m5, .int (iI ((ty : Nat) : Int)), .ref m6, .int (iI ((nx : Nat) : Int)), .int (iI (fi)), .int (iI (se)), .int (iI ((le : Nat) : Int)), .ref m7, .int (iI (bp)), .ref m8])), (m1, .inl (cI, 516, .inl (rI (sF cn en ac cu co au er ki bs)))), (m6, .inl (cI, 16, .inl (rN (re))))] sz) := by
  refine startW (cc := cX5_edit) (maxL := 3) (ret := (some .int)) (by decide) rfl (Nat.le_of_ble_eq_true rfl) ?_
  intro p e s m below meth c S hr hlocks hE hP A hD hA hS ls hl
  have hx := S.1
  have hb := S.2.1
  have hown := S.2.2.2.1
  have hts := S.2.2.2.2
  have hK := hE.1
  have hl : lv_has ls 3 [(0, .ref hm), (1, .int (iI ((e1 : Nat) : Int))), (2, .int (iI 2))] := hl
  refine lv_aload_n hx hb dX5_edit_0 rfl (lv_at hl 0 rfl) ?_
  refine lv_iload_n hx hb dX5_edit_1 rfl (lv_at hl 1 rfl) ?_
  refine callVO (n := 1) (As := [.int (iI ((e1 : Nat) : Int))]) (rest := []) (wc := [(hm, .inr (5, [.ref m1, .ref m2, .ref m3, .int (iI ((pa : Nat) : Int)), .int (iI ((pb : Nat) : Int)), .ref m4, .int (iI ((cp : Nat) : Int)), .ref m5, .int (iI ((ty : Nat) : Int)), .ref m6, .int (iI ((nx : Nat) : Int)), .int (iI (fi)), .int (iI (se)), .int (iI ((le : Nat) : Int)), .ref m7, .int (iI (bp)), .ref m8])), (m1, .inl (cI, 516, .inl (rI (sF cn en ac cu co au er ki bs))))]) S (m_isEdit l D cI cB cZ cO hm m1 m2 m3 m4 m5 m6 m7 m8 pa pb cp ty nx fi se le bp cn en ac cu co au er ki bs (((e1 : Nat) : Int)) (by first | assumption | (omega)) (by first | assumption | (omega))) gX5_edit_X5_isEdit rfl ⟨rfl, rfl⟩ (by decide +kernel) ⟨Nat.le_of_ble_eq_true rfl, Nat.le_of_ble_eq_true rfl⟩ hE hP [0, 1] rfl 5 0 rfl rfl rfl hl.1 rfl (Nat.le_of_ble_eq_true rfl) dX5_edit_2 ⟨Nat.le_of_ble_eq_true rfl, Nat.le_of_ble_eq_true rfl⟩ ?_
  refine r_ifb_eq (tgt := 18) hx hb dX5_edit_5 (by decide) (fun c_1 => ?_) (fun c_1 => ?_)
  · skip
    exfalso; omega
  · skip
    refine lv_iload_n hx hb dX5_edit_8 rfl (lv_at hl 2 rfl) ?_
    refine r_iconst hx hb dX5_edit_9 ?_
    refine r_bipush hx hb dX5_edit_10 (by decide) ?_
    rw [show (2 : Int) = (2) from by omega]
    rw [show (0 : Int) = (0) from by omega]
    rw [show (6 : Int) = (6) from by omega]
    refine callSO (n := 3) (As := [.int (iI (2)), .int (iI (0)), .int (iI (6))]) (rest := []) (wc := []) S (m_in l D cI cB cZ cO 2 0 6 (by first | assumption | (omega)) (by first | assumption | (omega)) (by first | assumption | (omega))) gX5_edit_X5_in rfl ⟨rfl, rfl⟩ (by decide +kernel) ⟨Nat.le_of_ble_eq_true rfl, Nat.le_of_ble_eq_true rfl⟩ hE hP [] rfl rfl hl.1 rfl (Nat.le_of_ble_eq_true rfl) dX5_edit_12 ⟨Nat.le_of_ble_eq_true rfl, Nat.le_of_ble_eq_true rfl⟩ ?_
    refine r_ifb_ne (tgt := 20) hx hb dX5_edit_15 (by decide) (fun c_2 => ?_) (fun c_2 => ?_)
    · skip
      refine lv_aload_n hx hb dX5_edit_20 rfl (lv_at hl 0 rfl) ?_
      refine callVX (n := 0) (As := []) (rest := []) (wc := [(hm, .inr (5, [.ref m1, .ref m2, .ref m3, .int (iI ((pa : Nat) : Int)), .int (iI ((pb : Nat) : Int)), .ref m4, .int (iI ((cp : Nat) : Int)), .ref m5, .int (iI ((ty : Nat) : Int)), .ref m6, .int (iI ((nx : Nat) : Int)), .int (iI (fi)), .int (iI (se)), .int (iI ((le : Nat) : Int)), .ref m7, .int (iI (bp)), .ref m8])), (m1, .inl (cI, 516, .inl (rI (sF cn en ac cu co au er ki bs)))), (m6, .inl (cI, 16, .inl (rN (re))))]) (wr := []) (ws2 := fun u => [(hm, .inr (5, [.ref m1, .ref m2, .ref m3, .int (iI ((pa : Nat) : Int)), .int (iI ((pb : Nat) : Int)), .ref m4, .int (iI ((cp : Nat) : Int)), .ref m5, .int (iI ((ty : Nat) : Int)), .ref m6, .int (iI ((nx : Nat) : Int)), .int (iI (fi)), .int (iI (se)), .int (iI ((le : Nat) : Int)), .ref m7, .int (iI (bp)), .ref m8])), (m1, .inl (cI, 516, .inl (rI (sF cn en ac cu co au er ki bs)))), (m6, .inl (cI, 16, .inl (rN (u))))]) S hE hP hD hS hA (m_findsRests l D cI cB cZ cO s.heap.size hm m1 m2 m3 m4 m5 m6 m7 m8 pa pb cp ty nx fi se le bp cn en ac cu co au er ki bs re ba (by first | assumption | (omega)) (by first | assumption | (omega)) (by first | assumption | (omega)) (by first | assumption | (omega)) (by first | assumption | (omega)) (by first | assumption | (omega)) (by first | assumption | (omega)) (by first | assumption | (omega))) gX5_edit_X5_findsRests rfl ⟨rfl, rfl⟩ (by decide +kernel) ⟨Nat.le_of_ble_eq_true rfl, Nat.le_of_ble_eq_true rfl⟩ [0, 1, 2] [] [0, 1, 2] rfl (by decide) rfl (by decide) (by decide) (by decide) (fun u => rfl) 5 0 rfl rfl rfl hl.1 rfl (Nat.le_of_ble_eq_true rfl) dX5_edit_21 ⟨Nat.le_of_ble_eq_true rfl, Nat.le_of_ble_eq_true rfl⟩ (fun u u21p H locs hP hD hS => ?_)
      generalize u = re2_u21 at u21p hP hD ⊢
      obtain ⟨hre2_u21, hrb_u21⟩ := u21p
      have hre2_u21 : ∀ k, re2_u21 k < 65536 := hre2_u21
      have hrb_u21 : ∀ k, k < en → re2_u21 k = ba k := hrb_u21
      have hP : va_P D vwCl [(hm, .inr (5, [.ref m1, .ref m2, .ref m3, .int (iI ((pa : Nat) : Int)), .int (iI ((pb : Nat) : Int)), .ref m4, .int (iI ((cp : Nat) : Int)), .ref m5, .int (iI ((ty : Nat) : Int)), .ref m6, .int (iI ((nx : Nat) : Int)), .int (iI (fi)), .int (iI (se)), .int (iI ((le : Nat) : Int)), .ref m7, .int (iI (bp)), .ref m8])), (m1, .inl (cI, 516, .inl (rI (sF cn en ac cu co au er ki bs)))), (m6, .inl (cI, 16, .inl (rN (re2_u21))))] H := hP
      have hD : va_D A [(hm, .inr (5, [.ref m1, .ref m2, .ref m3, .int (iI ((pa : Nat) : Int)), .int (iI ((pb : Nat) : Int)), .ref m4, .int (iI ((cp : Nat) : Int)), .ref m5, .int (iI ((ty : Nat) : Int)), .ref m6, .int (iI ((nx : Nat) : Int)), .int (iI (fi)), .int (iI (se)), .int (iI ((le : Nat) : Int)), .ref m7, .int (iI (bp)), .ref m8])), (m1, .inl (cI, 516, .inl (rI (sF cn en ac cu co au er ki bs)))), (m6, .inl (cI, 16, .inl (rN (re2_u21))))] := hD
      refine W.eq (g2 := F0 m 24 ls []) rfl ?_
      refine lv_iload_n hx hb dX5_edit_24 rfl (lv_at hl 2 rfl) ?_
      refine lv_tableIn (off := 64) (tgt := 89) hx hb dX5_edit_25 (by rw [iI_toInt ⟨by decide, by decide⟩]; decide) (by rw [iI_toInt ⟨by decide, by decide⟩]; decide) (by rw [iI_toInt ⟨by decide, by decide⟩]; rfl) (by decide) ?_
      refine lv_aload_n hx hb dX5_edit_89 rfl (lv_at hl 0 rfl) ?_
      refine lv_iload_n hx hb dX5_edit_90 rfl (lv_at hl 1 rfl) ?_
      refine callVO (n := 1) (As := [.int (iI ((e1 : Nat) : Int))]) (rest := []) (wc := [(hm, .inr (5, [.ref m1, .ref m2, .ref m3, .int (iI ((pa : Nat) : Int)), .int (iI ((pb : Nat) : Int)), .ref m4, .int (iI ((cp : Nat) : Int)), .ref m5, .int (iI ((ty : Nat) : Int)), .ref m6, .int (iI ((nx : Nat) : Int)), .int (iI (fi)), .int (iI (se)), .int (iI ((le : Nat) : Int)), .ref m7, .int (iI (bp)), .ref m8])), (m1, .inl (cI, 516, .inl (rI (sF cn en ac cu co au er ki bs))))]) S (m_charactersOf l D cI cB cZ cO hm m1 m2 m3 m4 m5 m6 m7 m8 pa pb cp ty nx fi se le bp cn en ac cu co au er ki bs e1 (by first | assumption | (omega)) (by first | assumption | (omega)) (by first | assumption | (omega)) (by first | assumption | (omega)) (by first | assumption | (omega)) (by first | assumption | (omega)) (by first | assumption | (omega))) gX5_edit_X5_charactersOf rfl ⟨rfl, rfl⟩ (by decide +kernel) ⟨Nat.le_of_ble_eq_true rfl, Nat.le_of_ble_eq_true rfl⟩ hE hP [0, 1] rfl 5 0 rfl rfl rfl hl.1 rfl (Nat.le_of_ble_eq_true rfl) dX5_edit_91 ⟨Nat.le_of_ble_eq_true rfl, Nat.le_of_ble_eq_true rfl⟩ ?_
      exact r_iretX hx hb hr hlocks hP hD hS (re2_u21) (rfl) (⟨by assumption, by assumption⟩) rfl dX5_edit_94
    · skip
      exfalso; omega

set_option maxHeartbeats 4000000 in
set_option maxRecDepth 100000 in
theorem m_edit_3 (l : Launch) (D : va_G) (cI cB cZ cO : ClassId) (sz : Nat) (hm : Nat) (m1 : Nat) (m2 : Nat) (m3 : Nat) (m4 : Nat) (m5 : Nat) (m6 : Nat) (m7 : Nat) (m8 : Nat) (pa : Nat) (pb : Nat) (cp : Nat) (ty : Nat) (nx : Nat) (fi : Int) (se : Int) (le : Nat) (bp : Int) (cn : Nat) (en : Nat) (ac : Nat) (cu : Nat) (co : Nat → Nat) (au : Nat → Int) (er : Nat → Nat) (ki : Nat → Nat) (bs : Nat → Int) (re : Nat → Nat) (ba : Nat → Nat) (e1 : Nat) (hcn : cn ≤ 160) (hen : en ≤ 16) (hau : ∀ k, -1 ≤ au k ∧ au k < 16) (her : ∀ k, er k < 65536) (hbs : ∀ k, -1 ≤ bs k ∧ bs k < 16) (hki : ∀ k, ki k ≤ 1) (hre : ∀ k, re k < 65536) (hrq : RQ au er ki bs cn en ba) (hac : ac < 65536) (he1 : e1 < en) (hke : ∀ e k : Nat, k < cn → au k = (e : Int) → ki e = 0) (hex : ∀ e, e < en → ∃ k, k < cn ∧ tch (omF au) er e k = true) : Met l yX5_edit wsX5_edit ({ frames := 3, cells := 0, slots := 0, locals := 69 }) (va_Pc [.ref hm, .int (iI ((e1 : Nat) : Int)), .int (iI 3)] (RW D cI cB cZ cO sz [(hm, .inr (5, [.ref m1, .ref m2, .ref m3, .int (iI ((pa : Nat) : Int)), .int (iI ((pb : Nat) : Int)), .ref m4, .int (iI ((cp : Nat) : Int)), .ref m5, .int (iI ((ty : Nat) : Int)), .ref m6, .int (iI ((nx : Nat) : Int)), .int (iI (fi)), .int (iI (se)), .int (iI ((le : Nat) : Int)), .ref m7, .int (iI (bp)), .ref m8])), (m1, .inl (cI, 516, .inl (rI (sF cn en ac cu co au er ki bs)))), (m6, .inl (cI, 16, .inl (rN (re))))])) (QX D (S := (Nat → Nat)) (fun u => some (.int (iI ((plc (omF au) er cn ac e1 : Nat) : Int)))) (fun u => (∀ k, u k < 65536) ∧ (∀ k, k < en → u k = ba k)) (fun u => [(hm, .inr (5, [.ref m1, .ref m2, .ref m3, .int (iI ((pa : Nat) : Int)), .int (iI ((pb : Nat) : Int)), .ref m4, .int (iI ((cp : Nat) : Int)), .ref m5, .int (iI ((ty : Nat) : Int)), .ref m6, .int (iI ((nx : Nat) : Int)), .int (iI (fi)), .int (iI (se)), .int (iI ((le : Nat) : Int)), .ref m7, .int (iI (bp)), .ref m8])), (m1, .inl (cI, 516, .inl (rI (sF cn en ac cu co au er ki bs)))), (m6, .inl (cI, 16, .inl (rN (u))))]) (va_A [(hm, .inr (5, [.ref m1, .ref m2, .ref m3, .int (iI ((pa : Nat) : Int)), .int (iI ((pb : Nat) : Int)), .ref m4, .int (iI ((cp : Nat) : Int)), .ref m5, .int (iI ((ty : Nat) : Int)), .ref m6, .int (iI ((nx : Nat) : Int)), .int (iI (fi)), .int (iI (se)), .int (iI ((le : Nat) : Int)), .ref m7, .int (iI (bp)), .ref m8])), (m1, .inl (cI, 516, .inl (rI (sF cn en ac cu co au er ki bs)))), (m6, .inl (cI, 16, .inl (rN (re))))] sz)) 0 0 (va_A [(hm, .inr (5, [.ref m1, .ref m2, .ref m3, .int (iI ((pa : Nat) : Int)), .int (iI ((pb : Nat) : Int)), .ref m4, .int (iI ((cp : Nat) : Int)), .ref m5, .int (iI ((ty : Nat) : Int)), .ref m6, .int (iI ((nx : Nat) : Int)), .int (iI (fi)), .int (iI (se)), .int (iI ((le : Nat) : Int)), .ref m7, .int (iI (bp)), .ref m8])), (m1, .inl (cI, 516, .inl (rI (sF cn en ac cu co au er ki bs)))), (m6, .inl (cI, 16, .inl (rN (re))))] sz) := by
  refine startW (cc := cX5_edit) (maxL := 3) (ret := (some .int)) (by decide) rfl (Nat.le_of_ble_eq_true rfl) ?_
  intro p e s m below meth c S hr hlocks hE hP A hD hA hS ls hl
  have hx := S.1
  have hb := S.2.1
  have hown := S.2.2.2.1
  have hts := S.2.2.2.2
  have hK := hE.1
  have hl : lv_has ls 3 [(0, .ref hm), (1, .int (iI ((e1 : Nat) : Int))), (2, .int (iI 3))] := hl
  refine lv_aload_n hx hb dX5_edit_0 rfl (lv_at hl 0 rfl) ?_
  refine lv_iload_n hx hb dX5_edit_1 rfl (lv_at hl 1 rfl) ?_
  refine callVO (n := 1) (As := [.int (iI ((e1 : Nat) : Int))]) (rest := []) (wc := [(hm, .inr (5, [.ref m1, .ref m2, .ref m3, .int (iI ((pa : Nat) : Int)), .int (iI ((pb : Nat) : Int)), .ref m4, .int (iI ((cp : Nat) : Int)), .ref m5, .int (iI ((ty : Nat) : Int)), .ref m6, .int (iI ((nx : Nat) : Int)), .int (iI (fi)), .int (iI (se)), .int (iI ((le : Nat) : Int)), .ref m7, .int (iI (bp)), .ref m8])), (m1, .inl (cI, 516, .inl (rI (sF cn en ac cu co au er ki bs))))]) S (m_isEdit l D cI cB cZ cO hm m1 m2 m3 m4 m5 m6 m7 m8 pa pb cp ty nx fi se le bp cn en ac cu co au er ki bs (((e1 : Nat) : Int)) (by first | assumption | (omega)) (by first | assumption | (omega))) gX5_edit_X5_isEdit rfl ⟨rfl, rfl⟩ (by decide +kernel) ⟨Nat.le_of_ble_eq_true rfl, Nat.le_of_ble_eq_true rfl⟩ hE hP [0, 1] rfl 5 0 rfl rfl rfl hl.1 rfl (Nat.le_of_ble_eq_true rfl) dX5_edit_2 ⟨Nat.le_of_ble_eq_true rfl, Nat.le_of_ble_eq_true rfl⟩ ?_
  refine r_ifb_eq (tgt := 18) hx hb dX5_edit_5 (by decide) (fun c_1 => ?_) (fun c_1 => ?_)
  · skip
    exfalso; omega
  · skip
    refine lv_iload_n hx hb dX5_edit_8 rfl (lv_at hl 2 rfl) ?_
    refine r_iconst hx hb dX5_edit_9 ?_
    refine r_bipush hx hb dX5_edit_10 (by decide) ?_
    rw [show (3 : Int) = (3) from by omega]
    rw [show (0 : Int) = (0) from by omega]
    rw [show (6 : Int) = (6) from by omega]
    refine callSO (n := 3) (As := [.int (iI (3)), .int (iI (0)), .int (iI (6))]) (rest := []) (wc := []) S (m_in l D cI cB cZ cO 3 0 6 (by first | assumption | (omega)) (by first | assumption | (omega)) (by first | assumption | (omega))) gX5_edit_X5_in rfl ⟨rfl, rfl⟩ (by decide +kernel) ⟨Nat.le_of_ble_eq_true rfl, Nat.le_of_ble_eq_true rfl⟩ hE hP [] rfl rfl hl.1 rfl (Nat.le_of_ble_eq_true rfl) dX5_edit_12 ⟨Nat.le_of_ble_eq_true rfl, Nat.le_of_ble_eq_true rfl⟩ ?_
    refine r_ifb_ne (tgt := 20) hx hb dX5_edit_15 (by decide) (fun c_2 => ?_) (fun c_2 => ?_)
    · skip
      refine lv_aload_n hx hb dX5_edit_20 rfl (lv_at hl 0 rfl) ?_
      refine callVX (n := 0) (As := []) (rest := []) (wc := [(hm, .inr (5, [.ref m1, .ref m2, .ref m3, .int (iI ((pa : Nat) : Int)), .int (iI ((pb : Nat) : Int)), .ref m4, .int (iI ((cp : Nat) : Int)), .ref m5, .int (iI ((ty : Nat) : Int)), .ref m6, .int (iI ((nx : Nat) : Int)), .int (iI (fi)), .int (iI (se)), .int (iI ((le : Nat) : Int)), .ref m7, .int (iI (bp)), .ref m8])), (m1, .inl (cI, 516, .inl (rI (sF cn en ac cu co au er ki bs)))), (m6, .inl (cI, 16, .inl (rN (re))))]) (wr := []) (ws2 := fun u => [(hm, .inr (5, [.ref m1, .ref m2, .ref m3, .int (iI ((pa : Nat) : Int)), .int (iI ((pb : Nat) : Int)), .ref m4, .int (iI ((cp : Nat) : Int)), .ref m5, .int (iI ((ty : Nat) : Int)), .ref m6, .int (iI ((nx : Nat) : Int)), .int (iI (fi)), .int (iI (se)), .int (iI ((le : Nat) : Int)), .ref m7, .int (iI (bp)), .ref m8])), (m1, .inl (cI, 516, .inl (rI (sF cn en ac cu co au er ki bs)))), (m6, .inl (cI, 16, .inl (rN (u))))]) S hE hP hD hS hA (m_findsRests l D cI cB cZ cO s.heap.size hm m1 m2 m3 m4 m5 m6 m7 m8 pa pb cp ty nx fi se le bp cn en ac cu co au er ki bs re ba (by first | assumption | (omega)) (by first | assumption | (omega)) (by first | assumption | (omega)) (by first | assumption | (omega)) (by first | assumption | (omega)) (by first | assumption | (omega)) (by first | assumption | (omega)) (by first | assumption | (omega))) gX5_edit_X5_findsRests rfl ⟨rfl, rfl⟩ (by decide +kernel) ⟨Nat.le_of_ble_eq_true rfl, Nat.le_of_ble_eq_true rfl⟩ [0, 1, 2] [] [0, 1, 2] rfl (by decide) rfl (by decide) (by decide) (by decide) (fun u => rfl) 5 0 rfl rfl rfl hl.1 rfl (Nat.le_of_ble_eq_true rfl) dX5_edit_21 ⟨Nat.le_of_ble_eq_true rfl, Nat.le_of_ble_eq_true rfl⟩ (fun u u21p H locs hP hD hS => ?_)
      generalize u = re2_u21 at u21p hP hD ⊢
      obtain ⟨hre2_u21, hrb_u21⟩ := u21p
      have hre2_u21 : ∀ k, re2_u21 k < 65536 := hre2_u21
      have hrb_u21 : ∀ k, k < en → re2_u21 k = ba k := hrb_u21
      have hP : va_P D vwCl [(hm, .inr (5, [.ref m1, .ref m2, .ref m3, .int (iI ((pa : Nat) : Int)), .int (iI ((pb : Nat) : Int)), .ref m4, .int (iI ((cp : Nat) : Int)), .ref m5, .int (iI ((ty : Nat) : Int)), .ref m6, .int (iI ((nx : Nat) : Int)), .int (iI (fi)), .int (iI (se)), .int (iI ((le : Nat) : Int)), .ref m7, .int (iI (bp)), .ref m8])), (m1, .inl (cI, 516, .inl (rI (sF cn en ac cu co au er ki bs)))), (m6, .inl (cI, 16, .inl (rN (re2_u21))))] H := hP
      have hD : va_D A [(hm, .inr (5, [.ref m1, .ref m2, .ref m3, .int (iI ((pa : Nat) : Int)), .int (iI ((pb : Nat) : Int)), .ref m4, .int (iI ((cp : Nat) : Int)), .ref m5, .int (iI ((ty : Nat) : Int)), .ref m6, .int (iI ((nx : Nat) : Int)), .int (iI (fi)), .int (iI (se)), .int (iI ((le : Nat) : Int)), .ref m7, .int (iI (bp)), .ref m8])), (m1, .inl (cI, 516, .inl (rI (sF cn en ac cu co au er ki bs)))), (m6, .inl (cI, 16, .inl (rN (re2_u21))))] := hD
      refine W.eq (g2 := F0 m 24 ls []) rfl ?_
      refine lv_iload_n hx hb dX5_edit_24 rfl (lv_at hl 2 rfl) ?_
      refine lv_tableIn (off := 70) (tgt := 95) hx hb dX5_edit_25 (by rw [iI_toInt ⟨by decide, by decide⟩]; decide) (by rw [iI_toInt ⟨by decide, by decide⟩]; decide) (by rw [iI_toInt ⟨by decide, by decide⟩]; rfl) (by decide) ?_
      refine lv_aload_n hx hb dX5_edit_95 rfl (lv_at hl 0 rfl) ?_
      refine lv_iload_n hx hb dX5_edit_96 rfl (lv_at hl 1 rfl) ?_
      refine callVO (n := 1) (As := [.int (iI ((e1 : Nat) : Int))]) (rest := []) (wc := [(hm, .inr (5, [.ref m1, .ref m2, .ref m3, .int (iI ((pa : Nat) : Int)), .int (iI ((pb : Nat) : Int)), .ref m4, .int (iI ((cp : Nat) : Int)), .ref m5, .int (iI ((ty : Nat) : Int)), .ref m6, .int (iI ((nx : Nat) : Int)), .int (iI (fi)), .int (iI (se)), .int (iI ((le : Nat) : Int)), .ref m7, .int (iI (bp)), .ref m8])), (m1, .inl (cI, 516, .inl (rI (sF cn en ac cu co au er ki bs))))]) S (m_placeOf l D cI cB cZ cO hm m1 m2 m3 m4 m5 m6 m7 m8 pa pb cp ty nx fi se le bp cn en ac cu co au er ki bs e1 (by first | assumption | (omega)) (by first | assumption | (omega)) (by first | assumption | (omega)) (by first | assumption | (omega)) (by first | assumption | (omega)) (by first | assumption | (omega)) (by first | assumption | (omega)) (by first | assumption | (omega)) (by first | assumption | (omega))) gX5_edit_X5_placeOf rfl ⟨rfl, rfl⟩ (by decide +kernel) ⟨Nat.le_of_ble_eq_true rfl, Nat.le_of_ble_eq_true rfl⟩ hE hP [0, 1] rfl 5 0 rfl rfl rfl hl.1 rfl (Nat.le_of_ble_eq_true rfl) dX5_edit_97 ⟨Nat.le_of_ble_eq_true rfl, Nat.le_of_ble_eq_true rfl⟩ ?_
      exact r_iretX hx hb hr hlocks hP hD hS (re2_u21) (rfl) (⟨by assumption, by assumption⟩) rfl dX5_edit_100
    · skip
      exfalso; omega

set_option maxHeartbeats 4000000 in
set_option maxRecDepth 100000 in
theorem m_edit_4 (l : Launch) (D : va_G) (cI cB cZ cO : ClassId) (sz : Nat) (hm : Nat) (m1 : Nat) (m2 : Nat) (m3 : Nat) (m4 : Nat) (m5 : Nat) (m6 : Nat) (m7 : Nat) (m8 : Nat) (pa : Nat) (pb : Nat) (cp : Nat) (ty : Nat) (nx : Nat) (fi : Int) (se : Int) (le : Nat) (bp : Int) (cn : Nat) (en : Nat) (ac : Nat) (cu : Nat) (co : Nat → Nat) (au : Nat → Int) (er : Nat → Nat) (ki : Nat → Nat) (bs : Nat → Int) (re : Nat → Nat) (ba : Nat → Nat) (e1 : Nat) (hcn : cn ≤ 160) (hen : en ≤ 16) (hau : ∀ k, -1 ≤ au k ∧ au k < 16) (her : ∀ k, er k < 65536) (hbs : ∀ k, -1 ≤ bs k ∧ bs k < 16) (hki : ∀ k, ki k ≤ 1) (hre : ∀ k, re k < 65536) (hrq : RQ au er ki bs cn en ba) (hac : ac < 65536) (he1 : e1 < en) (hke : ∀ e k : Nat, k < cn → au k = (e : Int) → ki e = 0) (hex : ∀ e, e < en → ∃ k, k < cn ∧ tch (omF au) er e k = true) (hcu : cu ≤ 60) (hac1 : ac.testBit e1 = true) : Met l yX5_edit wsX5_edit ({ frames := 4, cells := 0, slots := 0, locals := 91 }) (va_Pc [.ref hm, .int (iI ((e1 : Nat) : Int)), .int (iI 4)] (RW D cI cB cZ cO sz [(hm, .inr (5, [.ref m1, .ref m2, .ref m3, .int (iI ((pa : Nat) : Int)), .int (iI ((pb : Nat) : Int)), .ref m4, .int (iI ((cp : Nat) : Int)), .ref m5, .int (iI ((ty : Nat) : Int)), .ref m6, .int (iI ((nx : Nat) : Int)), .int (iI (fi)), .int (iI (se)), .int (iI ((le : Nat) : Int)), .ref m7, .int (iI (bp)), .ref m8])), (m1, .inl (cI, 516, .inl (rI (sF cn en ac cu co au er ki bs)))), (m6, .inl (cI, 16, .inl (rN (re))))])) (QX D (S := (Nat → Nat)) (fun u => some (.int (iI ((prc (omF au) er cn ac cu pa pb e1 : Nat) : Int)))) (fun u => (∀ k, u k < 65536) ∧ (∀ k, k < en → u k = ba k)) (fun u => [(hm, .inr (5, [.ref m1, .ref m2, .ref m3, .int (iI ((pa : Nat) : Int)), .int (iI ((pb : Nat) : Int)), .ref m4, .int (iI ((cp : Nat) : Int)), .ref m5, .int (iI ((ty : Nat) : Int)), .ref m6, .int (iI ((nx : Nat) : Int)), .int (iI (fi)), .int (iI (se)), .int (iI ((le : Nat) : Int)), .ref m7, .int (iI (bp)), .ref m8])), (m1, .inl (cI, 516, .inl (rI (sF cn en ac cu co au er ki bs)))), (m6, .inl (cI, 16, .inl (rN (u))))]) (va_A [(hm, .inr (5, [.ref m1, .ref m2, .ref m3, .int (iI ((pa : Nat) : Int)), .int (iI ((pb : Nat) : Int)), .ref m4, .int (iI ((cp : Nat) : Int)), .ref m5, .int (iI ((ty : Nat) : Int)), .ref m6, .int (iI ((nx : Nat) : Int)), .int (iI (fi)), .int (iI (se)), .int (iI ((le : Nat) : Int)), .ref m7, .int (iI (bp)), .ref m8])), (m1, .inl (cI, 516, .inl (rI (sF cn en ac cu co au er ki bs)))), (m6, .inl (cI, 16, .inl (rN (re))))] sz)) 0 0 (va_A [(hm, .inr (5, [.ref m1, .ref m2, .ref m3, .int (iI ((pa : Nat) : Int)), .int (iI ((pb : Nat) : Int)), .ref m4, .int (iI ((cp : Nat) : Int)), .ref m5, .int (iI ((ty : Nat) : Int)), .ref m6, .int (iI ((nx : Nat) : Int)), .int (iI (fi)), .int (iI (se)), .int (iI ((le : Nat) : Int)), .ref m7, .int (iI (bp)), .ref m8])), (m1, .inl (cI, 516, .inl (rI (sF cn en ac cu co au er ki bs)))), (m6, .inl (cI, 16, .inl (rN (re))))] sz) := by
  refine startW (cc := cX5_edit) (maxL := 3) (ret := (some .int)) (by decide) rfl (Nat.le_of_ble_eq_true rfl) ?_
  intro p e s m below meth c S hr hlocks hE hP A hD hA hS ls hl
  have hx := S.1
  have hb := S.2.1
  have hown := S.2.2.2.1
  have hts := S.2.2.2.2
  have hK := hE.1
  have hl : lv_has ls 3 [(0, .ref hm), (1, .int (iI ((e1 : Nat) : Int))), (2, .int (iI 4))] := hl
  refine lv_aload_n hx hb dX5_edit_0 rfl (lv_at hl 0 rfl) ?_
  refine lv_iload_n hx hb dX5_edit_1 rfl (lv_at hl 1 rfl) ?_
  refine callVO (n := 1) (As := [.int (iI ((e1 : Nat) : Int))]) (rest := []) (wc := [(hm, .inr (5, [.ref m1, .ref m2, .ref m3, .int (iI ((pa : Nat) : Int)), .int (iI ((pb : Nat) : Int)), .ref m4, .int (iI ((cp : Nat) : Int)), .ref m5, .int (iI ((ty : Nat) : Int)), .ref m6, .int (iI ((nx : Nat) : Int)), .int (iI (fi)), .int (iI (se)), .int (iI ((le : Nat) : Int)), .ref m7, .int (iI (bp)), .ref m8])), (m1, .inl (cI, 516, .inl (rI (sF cn en ac cu co au er ki bs))))]) S (m_isEdit l D cI cB cZ cO hm m1 m2 m3 m4 m5 m6 m7 m8 pa pb cp ty nx fi se le bp cn en ac cu co au er ki bs (((e1 : Nat) : Int)) (by first | assumption | (omega)) (by first | assumption | (omega))) gX5_edit_X5_isEdit rfl ⟨rfl, rfl⟩ (by decide +kernel) ⟨Nat.le_of_ble_eq_true rfl, Nat.le_of_ble_eq_true rfl⟩ hE hP [0, 1] rfl 5 0 rfl rfl rfl hl.1 rfl (Nat.le_of_ble_eq_true rfl) dX5_edit_2 ⟨Nat.le_of_ble_eq_true rfl, Nat.le_of_ble_eq_true rfl⟩ ?_
  refine r_ifb_eq (tgt := 18) hx hb dX5_edit_5 (by decide) (fun c_1 => ?_) (fun c_1 => ?_)
  · skip
    exfalso; omega
  · skip
    refine lv_iload_n hx hb dX5_edit_8 rfl (lv_at hl 2 rfl) ?_
    refine r_iconst hx hb dX5_edit_9 ?_
    refine r_bipush hx hb dX5_edit_10 (by decide) ?_
    rw [show (4 : Int) = (4) from by omega]
    rw [show (0 : Int) = (0) from by omega]
    rw [show (6 : Int) = (6) from by omega]
    refine callSO (n := 3) (As := [.int (iI (4)), .int (iI (0)), .int (iI (6))]) (rest := []) (wc := []) S (m_in l D cI cB cZ cO 4 0 6 (by first | assumption | (omega)) (by first | assumption | (omega)) (by first | assumption | (omega))) gX5_edit_X5_in rfl ⟨rfl, rfl⟩ (by decide +kernel) ⟨Nat.le_of_ble_eq_true rfl, Nat.le_of_ble_eq_true rfl⟩ hE hP [] rfl rfl hl.1 rfl (Nat.le_of_ble_eq_true rfl) dX5_edit_12 ⟨Nat.le_of_ble_eq_true rfl, Nat.le_of_ble_eq_true rfl⟩ ?_
    refine r_ifb_ne (tgt := 20) hx hb dX5_edit_15 (by decide) (fun c_2 => ?_) (fun c_2 => ?_)
    · skip
      refine lv_aload_n hx hb dX5_edit_20 rfl (lv_at hl 0 rfl) ?_
      refine callVX (n := 0) (As := []) (rest := []) (wc := [(hm, .inr (5, [.ref m1, .ref m2, .ref m3, .int (iI ((pa : Nat) : Int)), .int (iI ((pb : Nat) : Int)), .ref m4, .int (iI ((cp : Nat) : Int)), .ref m5, .int (iI ((ty : Nat) : Int)), .ref m6, .int (iI ((nx : Nat) : Int)), .int (iI (fi)), .int (iI (se)), .int (iI ((le : Nat) : Int)), .ref m7, .int (iI (bp)), .ref m8])), (m1, .inl (cI, 516, .inl (rI (sF cn en ac cu co au er ki bs)))), (m6, .inl (cI, 16, .inl (rN (re))))]) (wr := []) (ws2 := fun u => [(hm, .inr (5, [.ref m1, .ref m2, .ref m3, .int (iI ((pa : Nat) : Int)), .int (iI ((pb : Nat) : Int)), .ref m4, .int (iI ((cp : Nat) : Int)), .ref m5, .int (iI ((ty : Nat) : Int)), .ref m6, .int (iI ((nx : Nat) : Int)), .int (iI (fi)), .int (iI (se)), .int (iI ((le : Nat) : Int)), .ref m7, .int (iI (bp)), .ref m8])), (m1, .inl (cI, 516, .inl (rI (sF cn en ac cu co au er ki bs)))), (m6, .inl (cI, 16, .inl (rN (u))))]) S hE hP hD hS hA (m_findsRests l D cI cB cZ cO s.heap.size hm m1 m2 m3 m4 m5 m6 m7 m8 pa pb cp ty nx fi se le bp cn en ac cu co au er ki bs re ba (by first | assumption | (omega)) (by first | assumption | (omega)) (by first | assumption | (omega)) (by first | assumption | (omega)) (by first | assumption | (omega)) (by first | assumption | (omega)) (by first | assumption | (omega)) (by first | assumption | (omega))) gX5_edit_X5_findsRests rfl ⟨rfl, rfl⟩ (by decide +kernel) ⟨Nat.le_of_ble_eq_true rfl, Nat.le_of_ble_eq_true rfl⟩ [0, 1, 2] [] [0, 1, 2] rfl (by decide) rfl (by decide) (by decide) (by decide) (fun u => rfl) 5 0 rfl rfl rfl hl.1 rfl (Nat.le_of_ble_eq_true rfl) dX5_edit_21 ⟨Nat.le_of_ble_eq_true rfl, Nat.le_of_ble_eq_true rfl⟩ (fun u u21p H locs hP hD hS => ?_)
      generalize u = re2_u21 at u21p hP hD ⊢
      obtain ⟨hre2_u21, hrb_u21⟩ := u21p
      have hre2_u21 : ∀ k, re2_u21 k < 65536 := hre2_u21
      have hrb_u21 : ∀ k, k < en → re2_u21 k = ba k := hrb_u21
      have hP : va_P D vwCl [(hm, .inr (5, [.ref m1, .ref m2, .ref m3, .int (iI ((pa : Nat) : Int)), .int (iI ((pb : Nat) : Int)), .ref m4, .int (iI ((cp : Nat) : Int)), .ref m5, .int (iI ((ty : Nat) : Int)), .ref m6, .int (iI ((nx : Nat) : Int)), .int (iI (fi)), .int (iI (se)), .int (iI ((le : Nat) : Int)), .ref m7, .int (iI (bp)), .ref m8])), (m1, .inl (cI, 516, .inl (rI (sF cn en ac cu co au er ki bs)))), (m6, .inl (cI, 16, .inl (rN (re2_u21))))] H := hP
      have hD : va_D A [(hm, .inr (5, [.ref m1, .ref m2, .ref m3, .int (iI ((pa : Nat) : Int)), .int (iI ((pb : Nat) : Int)), .ref m4, .int (iI ((cp : Nat) : Int)), .ref m5, .int (iI ((ty : Nat) : Int)), .ref m6, .int (iI ((nx : Nat) : Int)), .int (iI (fi)), .int (iI (se)), .int (iI ((le : Nat) : Int)), .ref m7, .int (iI (bp)), .ref m8])), (m1, .inl (cI, 516, .inl (rI (sF cn en ac cu co au er ki bs)))), (m6, .inl (cI, 16, .inl (rN (re2_u21))))] := hD
      refine W.eq (g2 := F0 m 24 ls []) rfl ?_
      refine lv_iload_n hx hb dX5_edit_24 rfl (lv_at hl 2 rfl) ?_
      refine lv_tableIn (off := 76) (tgt := 101) hx hb dX5_edit_25 (by rw [iI_toInt ⟨by decide, by decide⟩]; decide) (by rw [iI_toInt ⟨by decide, by decide⟩]; decide) (by rw [iI_toInt ⟨by decide, by decide⟩]; rfl) (by decide) ?_
      refine lv_aload_n hx hb dX5_edit_101 rfl (lv_at hl 0 rfl) ?_
      refine lv_iload_n hx hb dX5_edit_102 rfl (lv_at hl 1 rfl) ?_
      refine callVO (n := 1) (As := [.int (iI ((e1 : Nat) : Int))]) (rest := []) (wc := [(hm, .inr (5, [.ref m1, .ref m2, .ref m3, .int (iI ((pa : Nat) : Int)), .int (iI ((pb : Nat) : Int)), .ref m4, .int (iI ((cp : Nat) : Int)), .ref m5, .int (iI ((ty : Nat) : Int)), .ref m6, .int (iI ((nx : Nat) : Int)), .int (iI (fi)), .int (iI (se)), .int (iI ((le : Nat) : Int)), .ref m7, .int (iI (bp)), .ref m8])), (m1, .inl (cI, 516, .inl (rI (sF cn en ac cu co au er ki bs))))]) S (m_isActive l D cI cB cZ cO hm m1 m2 m3 m4 m5 m6 m7 m8 pa pb cp ty nx fi se le bp cn en ac cu co au er ki bs e1 (by first | assumption | (omega)) (by first | assumption | (omega))) gX5_edit_X5_isActive rfl ⟨rfl, rfl⟩ (by decide +kernel) ⟨Nat.le_of_ble_eq_true rfl, Nat.le_of_ble_eq_true rfl⟩ hE hP [0, 1] rfl 5 0 rfl rfl rfl hl.1 rfl (Nat.le_of_ble_eq_true rfl) dX5_edit_103 ⟨Nat.le_of_ble_eq_true rfl, Nat.le_of_ble_eq_true rfl⟩ ?_
      refine r_ifb_eq (tgt := 117) hx hb dX5_edit_106 (by decide) (fun c_4 => ?_) (fun c_4 => ?_)
      · skip
        exfalso; exact absurd hac1 (by assumption)
      · skip
        refine lv_aload_n hx hb dX5_edit_109 rfl (lv_at hl 0 rfl) ?_
        refine lv_iload_n hx hb dX5_edit_110 rfl (lv_at hl 1 rfl) ?_
        refine callVO (n := 1) (As := [.int (iI ((e1 : Nat) : Int))]) (rest := []) (wc := [(hm, .inr (5, [.ref m1, .ref m2, .ref m3, .int (iI ((pa : Nat) : Int)), .int (iI ((pb : Nat) : Int)), .ref m4, .int (iI ((cp : Nat) : Int)), .ref m5, .int (iI ((ty : Nat) : Int)), .ref m6, .int (iI ((nx : Nat) : Int)), .int (iI (fi)), .int (iI (se)), .int (iI ((le : Nat) : Int)), .ref m7, .int (iI (bp)), .ref m8])), (m1, .inl (cI, 516, .inl (rI (sF cn en ac cu co au er ki bs))))]) S (m_priceOf l D cI cB cZ cO hm m1 m2 m3 m4 m5 m6 m7 m8 pa pb cp ty nx fi se le bp cn en ac cu co au er ki bs e1 (by first | assumption | (omega)) (by first | assumption | (omega)) (by first | assumption | (omega)) (by first | assumption | (omega)) (by first | assumption | (omega)) (by first | assumption | (omega)) (by first | assumption | (omega)) (by first | assumption | (omega)) (by first | assumption | (omega)) (by first | assumption | (omega))) gX5_edit_X5_priceOf rfl ⟨rfl, rfl⟩ (by decide +kernel) ⟨Nat.le_of_ble_eq_true rfl, Nat.le_of_ble_eq_true rfl⟩ hE hP [0, 1] rfl 5 0 rfl rfl rfl hl.1 rfl (Nat.le_of_ble_eq_true rfl) dX5_edit_111 ⟨Nat.le_of_ble_eq_true rfl, Nat.le_of_ble_eq_true rfl⟩ ?_
        refine lv_goto (tgt := 119) hx hb dX5_edit_114 (by decide) ?_
        exact r_iretX hx hb hr hlocks hP hD hS (re2_u21) (rfl) (⟨by assumption, by assumption⟩) rfl dX5_edit_119
    · skip
      exfalso; omega

theorem kX5_edit_34 : Cond.fieldLink RX5 34 "PricedUndoModel" "rests" "[I" ∈ wsX5_edit := by decide +kernel
set_option maxHeartbeats 4000000 in
set_option maxRecDepth 100000 in
theorem m_edit_5 (l : Launch) (D : va_G) (cI cB cZ cO : ClassId) (sz : Nat) (hm : Nat) (m1 : Nat) (m2 : Nat) (m3 : Nat) (m4 : Nat) (m5 : Nat) (m6 : Nat) (m7 : Nat) (m8 : Nat) (pa : Nat) (pb : Nat) (cp : Nat) (ty : Nat) (nx : Nat) (fi : Int) (se : Int) (le : Nat) (bp : Int) (cn : Nat) (en : Nat) (ac : Nat) (cu : Nat) (co : Nat → Nat) (au : Nat → Int) (er : Nat → Nat) (ki : Nat → Nat) (bs : Nat → Int) (re : Nat → Nat) (ba : Nat → Nat) (e1 : Nat) (hcn : cn ≤ 160) (hen : en ≤ 16) (hau : ∀ k, -1 ≤ au k ∧ au k < 16) (her : ∀ k, er k < 65536) (hbs : ∀ k, -1 ≤ bs k ∧ bs k < 16) (hki : ∀ k, ki k ≤ 1) (hre : ∀ k, re k < 65536) (hrq : RQ au er ki bs cn en ba) (hac : ac < 65536) (he1 : e1 < en) : Met l yX5_edit wsX5_edit ({ frames := 2, cells := 0, slots := 0, locals := 43 }) (va_Pc [.ref hm, .int (iI ((e1 : Nat) : Int)), .int (iI 5)] (RW D cI cB cZ cO sz [(hm, .inr (5, [.ref m1, .ref m2, .ref m3, .int (iI ((pa : Nat) : Int)), .int (iI ((pb : Nat) : Int)), .ref m4, .int (iI ((cp : Nat) : Int)), .ref m5, .int (iI ((ty : Nat) : Int)), .ref m6, .int (iI ((nx : Nat) : Int)), .int (iI (fi)), .int (iI (se)), .int (iI ((le : Nat) : Int)), .ref m7, .int (iI (bp)), .ref m8])), (m1, .inl (cI, 516, .inl (rI (sF cn en ac cu co au er ki bs)))), (m6, .inl (cI, 16, .inl (rN (re))))])) (QX D (S := (Nat → Nat)) (fun u => some (.int (iI ((ba e1 : Nat) : Int)))) (fun u => (∀ k, u k < 65536) ∧ (∀ k, k < en → u k = ba k)) (fun u => [(hm, .inr (5, [.ref m1, .ref m2, .ref m3, .int (iI ((pa : Nat) : Int)), .int (iI ((pb : Nat) : Int)), .ref m4, .int (iI ((cp : Nat) : Int)), .ref m5, .int (iI ((ty : Nat) : Int)), .ref m6, .int (iI ((nx : Nat) : Int)), .int (iI (fi)), .int (iI (se)), .int (iI ((le : Nat) : Int)), .ref m7, .int (iI (bp)), .ref m8])), (m1, .inl (cI, 516, .inl (rI (sF cn en ac cu co au er ki bs)))), (m6, .inl (cI, 16, .inl (rN (u))))]) (va_A [(hm, .inr (5, [.ref m1, .ref m2, .ref m3, .int (iI ((pa : Nat) : Int)), .int (iI ((pb : Nat) : Int)), .ref m4, .int (iI ((cp : Nat) : Int)), .ref m5, .int (iI ((ty : Nat) : Int)), .ref m6, .int (iI ((nx : Nat) : Int)), .int (iI (fi)), .int (iI (se)), .int (iI ((le : Nat) : Int)), .ref m7, .int (iI (bp)), .ref m8])), (m1, .inl (cI, 516, .inl (rI (sF cn en ac cu co au er ki bs)))), (m6, .inl (cI, 16, .inl (rN (re))))] sz)) 0 0 (va_A [(hm, .inr (5, [.ref m1, .ref m2, .ref m3, .int (iI ((pa : Nat) : Int)), .int (iI ((pb : Nat) : Int)), .ref m4, .int (iI ((cp : Nat) : Int)), .ref m5, .int (iI ((ty : Nat) : Int)), .ref m6, .int (iI ((nx : Nat) : Int)), .int (iI (fi)), .int (iI (se)), .int (iI ((le : Nat) : Int)), .ref m7, .int (iI (bp)), .ref m8])), (m1, .inl (cI, 516, .inl (rI (sF cn en ac cu co au er ki bs)))), (m6, .inl (cI, 16, .inl (rN (re))))] sz) := by
  refine startW (cc := cX5_edit) (maxL := 3) (ret := (some .int)) (by decide) rfl (Nat.le_of_ble_eq_true rfl) ?_
  intro p e s m below meth c S hr hlocks hE hP A hD hA hS ls hl
  have hx := S.1
  have hb := S.2.1
  have hown := S.2.2.2.1
  have hts := S.2.2.2.2
  have hK := hE.1
  have hl : lv_has ls 3 [(0, .ref hm), (1, .int (iI ((e1 : Nat) : Int))), (2, .int (iI 5))] := hl
  refine lv_aload_n hx hb dX5_edit_0 rfl (lv_at hl 0 rfl) ?_
  refine lv_iload_n hx hb dX5_edit_1 rfl (lv_at hl 1 rfl) ?_
  refine callVO (n := 1) (As := [.int (iI ((e1 : Nat) : Int))]) (rest := []) (wc := [(hm, .inr (5, [.ref m1, .ref m2, .ref m3, .int (iI ((pa : Nat) : Int)), .int (iI ((pb : Nat) : Int)), .ref m4, .int (iI ((cp : Nat) : Int)), .ref m5, .int (iI ((ty : Nat) : Int)), .ref m6, .int (iI ((nx : Nat) : Int)), .int (iI (fi)), .int (iI (se)), .int (iI ((le : Nat) : Int)), .ref m7, .int (iI (bp)), .ref m8])), (m1, .inl (cI, 516, .inl (rI (sF cn en ac cu co au er ki bs))))]) S (m_isEdit l D cI cB cZ cO hm m1 m2 m3 m4 m5 m6 m7 m8 pa pb cp ty nx fi se le bp cn en ac cu co au er ki bs (((e1 : Nat) : Int)) (by first | assumption | (first | omega | (rw [hrb_u21 e1 he1]))) (by first | assumption | (first | omega | (rw [hrb_u21 e1 he1])))) gX5_edit_X5_isEdit rfl ⟨rfl, rfl⟩ (by decide +kernel) ⟨Nat.le_of_ble_eq_true rfl, Nat.le_of_ble_eq_true rfl⟩ hE hP [0, 1] rfl 5 0 rfl rfl rfl hl.1 rfl (Nat.le_of_ble_eq_true rfl) dX5_edit_2 ⟨Nat.le_of_ble_eq_true rfl, Nat.le_of_ble_eq_true rfl⟩ ?_
  refine r_ifb_eq (tgt := 18) hx hb dX5_edit_5 (by decide) (fun c_1 => ?_) (fun c_1 => ?_)
  · skip
    exfalso; omega
  · skip
    refine lv_iload_n hx hb dX5_edit_8 rfl (lv_at hl 2 rfl) ?_
    refine r_iconst hx hb dX5_edit_9 ?_
    refine r_bipush hx hb dX5_edit_10 (by decide) ?_
    rw [show (5 : Int) = (5) from by first | omega | (rw [hrb_u21 e1 he1])]
    rw [show (0 : Int) = (0) from by first | omega | (rw [hrb_u21 e1 he1])]
    rw [show (6 : Int) = (6) from by first | omega | (rw [hrb_u21 e1 he1])]
    refine callSO (n := 3) (As := [.int (iI (5)), .int (iI (0)), .int (iI (6))]) (rest := []) (wc := []) S (m_in l D cI cB cZ cO 5 0 6 (by first | assumption | (first | omega | (rw [hrb_u21 e1 he1]))) (by first | assumption | (first | omega | (rw [hrb_u21 e1 he1]))) (by first | assumption | (first | omega | (rw [hrb_u21 e1 he1])))) gX5_edit_X5_in rfl ⟨rfl, rfl⟩ (by decide +kernel) ⟨Nat.le_of_ble_eq_true rfl, Nat.le_of_ble_eq_true rfl⟩ hE hP [] rfl rfl hl.1 rfl (Nat.le_of_ble_eq_true rfl) dX5_edit_12 ⟨Nat.le_of_ble_eq_true rfl, Nat.le_of_ble_eq_true rfl⟩ ?_
    refine r_ifb_ne (tgt := 20) hx hb dX5_edit_15 (by decide) (fun c_2 => ?_) (fun c_2 => ?_)
    · skip
      refine lv_aload_n hx hb dX5_edit_20 rfl (lv_at hl 0 rfl) ?_
      refine callVX (n := 0) (As := []) (rest := []) (wc := [(hm, .inr (5, [.ref m1, .ref m2, .ref m3, .int (iI ((pa : Nat) : Int)), .int (iI ((pb : Nat) : Int)), .ref m4, .int (iI ((cp : Nat) : Int)), .ref m5, .int (iI ((ty : Nat) : Int)), .ref m6, .int (iI ((nx : Nat) : Int)), .int (iI (fi)), .int (iI (se)), .int (iI ((le : Nat) : Int)), .ref m7, .int (iI (bp)), .ref m8])), (m1, .inl (cI, 516, .inl (rI (sF cn en ac cu co au er ki bs)))), (m6, .inl (cI, 16, .inl (rN (re))))]) (wr := []) (ws2 := fun u => [(hm, .inr (5, [.ref m1, .ref m2, .ref m3, .int (iI ((pa : Nat) : Int)), .int (iI ((pb : Nat) : Int)), .ref m4, .int (iI ((cp : Nat) : Int)), .ref m5, .int (iI ((ty : Nat) : Int)), .ref m6, .int (iI ((nx : Nat) : Int)), .int (iI (fi)), .int (iI (se)), .int (iI ((le : Nat) : Int)), .ref m7, .int (iI (bp)), .ref m8])), (m1, .inl (cI, 516, .inl (rI (sF cn en ac cu co au er ki bs)))), (m6, .inl (cI, 16, .inl (rN (u))))]) S hE hP hD hS hA (m_findsRests l D cI cB cZ cO s.heap.size hm m1 m2 m3 m4 m5 m6 m7 m8 pa pb cp ty nx fi se le bp cn en ac cu co au er ki bs re ba (by first | assumption | (first | omega | (rw [hrb_u21 e1 he1]))) (by first | assumption | (first | omega | (rw [hrb_u21 e1 he1]))) (by first | assumption | (first | omega | (rw [hrb_u21 e1 he1]))) (by first | assumption | (first | omega | (rw [hrb_u21 e1 he1]))) (by first | assumption | (first | omega | (rw [hrb_u21 e1 he1]))) (by first | assumption | (first | omega | (rw [hrb_u21 e1 he1]))) (by first | assumption | (first | omega | (rw [hrb_u21 e1 he1]))) (by first | assumption | (first | omega | (rw [hrb_u21 e1 he1])))) gX5_edit_X5_findsRests rfl ⟨rfl, rfl⟩ (by decide +kernel) ⟨Nat.le_of_ble_eq_true rfl, Nat.le_of_ble_eq_true rfl⟩ [0, 1, 2] [] [0, 1, 2] rfl (by decide) rfl (by decide) (by decide) (by decide) (fun u => rfl) 5 0 rfl rfl rfl hl.1 rfl (Nat.le_of_ble_eq_true rfl) dX5_edit_21 ⟨Nat.le_of_ble_eq_true rfl, Nat.le_of_ble_eq_true rfl⟩ (fun u u21p H locs hP hD hS => ?_)
      generalize u = re2_u21 at u21p hP hD ⊢
      obtain ⟨hre2_u21, hrb_u21⟩ := u21p
      have hre2_u21 : ∀ k, re2_u21 k < 65536 := hre2_u21
      have hrb_u21 : ∀ k, k < en → re2_u21 k = ba k := hrb_u21
      have hP : va_P D vwCl [(hm, .inr (5, [.ref m1, .ref m2, .ref m3, .int (iI ((pa : Nat) : Int)), .int (iI ((pb : Nat) : Int)), .ref m4, .int (iI ((cp : Nat) : Int)), .ref m5, .int (iI ((ty : Nat) : Int)), .ref m6, .int (iI ((nx : Nat) : Int)), .int (iI (fi)), .int (iI (se)), .int (iI ((le : Nat) : Int)), .ref m7, .int (iI (bp)), .ref m8])), (m1, .inl (cI, 516, .inl (rI (sF cn en ac cu co au er ki bs)))), (m6, .inl (cI, 16, .inl (rN (re2_u21))))] H := hP
      have hD : va_D A [(hm, .inr (5, [.ref m1, .ref m2, .ref m3, .int (iI ((pa : Nat) : Int)), .int (iI ((pb : Nat) : Int)), .ref m4, .int (iI ((cp : Nat) : Int)), .ref m5, .int (iI ((ty : Nat) : Int)), .ref m6, .int (iI ((nx : Nat) : Int)), .int (iI (fi)), .int (iI (se)), .int (iI ((le : Nat) : Int)), .ref m7, .int (iI (bp)), .ref m8])), (m1, .inl (cI, 516, .inl (rI (sF cn en ac cu co au er ki bs)))), (m6, .inl (cI, 16, .inl (rN (re2_u21))))] := hD
      refine W.eq (g2 := F0 m 24 ls []) rfl ?_
      refine lv_iload_n hx hb dX5_edit_24 rfl (lv_at hl 2 rfl) ?_
      refine lv_tableIn (off := 95) (tgt := 120) hx hb dX5_edit_25 (by rw [iI_toInt ⟨by decide, by decide⟩]; decide) (by rw [iI_toInt ⟨by decide, by decide⟩]; decide) (by rw [iI_toInt ⟨by decide, by decide⟩]; rfl) (by decide) ?_
      refine lv_aload_n hx hb dX5_edit_120 rfl (lv_at hl 0 rfl) ?_
      refine va_get (D := D) (ci := 5) (v := .ref m6) (C := RX5) (T := TX5) (N := 17) hx hb hts nX5_edit_X5 hown hK hP 0 rfl rfl 9 (by decide) (hts _ kX5_edit_34) (fun _ h9 => h9) rfl dX5_edit_121 ?_
      refine lv_iload_n hx hb dX5_edit_124 rfl (lv_at hl 1 rfl) ?_
      refine r_ialdN hx hb hK hP 2 0 rfl rfl (e1) (rfl) (by first | omega | (rw [hrb_u21 e1 he1])) (by decide) dX5_edit_125 ?_
      exact r_iretX hx hb hr hlocks hP hD hS (re2_u21) (congrArg (fun z => some (Value.int (iI z))) ((by first | omega | (rw [hrb_u21 e1 he1]) : ((re2_u21 e1 : Nat) : Int) = ((ba e1 : Nat) : Int)).symm)) (⟨by assumption, by assumption⟩) rfl dX5_edit_126
    · skip
      exfalso; omega

set_option maxHeartbeats 4000000 in
set_option maxRecDepth 100000 in
theorem m_edit_6 (l : Launch) (D : va_G) (cI cB cZ cO : ClassId) (sz : Nat) (hm : Nat) (m1 : Nat) (m2 : Nat) (m3 : Nat) (m4 : Nat) (m5 : Nat) (m6 : Nat) (m7 : Nat) (m8 : Nat) (pa : Nat) (pb : Nat) (cp : Nat) (ty : Nat) (nx : Nat) (fi : Int) (se : Int) (le : Nat) (bp : Int) (cn : Nat) (en : Nat) (ac : Nat) (cu : Nat) (co : Nat → Nat) (au : Nat → Int) (er : Nat → Nat) (ki : Nat → Nat) (bs : Nat → Int) (re : Nat → Nat) (ba : Nat → Nat) (e1 : Nat) (hcn : cn ≤ 160) (hen : en ≤ 16) (hau : ∀ k, -1 ≤ au k ∧ au k < 16) (her : ∀ k, er k < 65536) (hbs : ∀ k, -1 ≤ bs k ∧ bs k < 16) (hki : ∀ k, ki k ≤ 1) (hre : ∀ k, re k < 65536) (hrq : RQ au er ki bs cn en ba) (hac : ac < 65536) (he1 : e1 < en) : Met l yX5_edit wsX5_edit ({ frames := 2, cells := 0, slots := 0, locals := 43 }) (va_Pc [.ref hm, .int (iI ((e1 : Nat) : Int)), .int (iI 6)] (RW D cI cB cZ cO sz [(hm, .inr (5, [.ref m1, .ref m2, .ref m3, .int (iI ((pa : Nat) : Int)), .int (iI ((pb : Nat) : Int)), .ref m4, .int (iI ((cp : Nat) : Int)), .ref m5, .int (iI ((ty : Nat) : Int)), .ref m6, .int (iI ((nx : Nat) : Int)), .int (iI (fi)), .int (iI (se)), .int (iI ((le : Nat) : Int)), .ref m7, .int (iI (bp)), .ref m8])), (m1, .inl (cI, 516, .inl (rI (sF cn en ac cu co au er ki bs)))), (m6, .inl (cI, 16, .inl (rN (re))))])) (QX D (S := (Nat → Nat)) (fun u => some (.int (iI ((dep ba en (2 ^ e1) : Nat) : Int)))) (fun u => (∀ k, u k < 65536) ∧ (∀ k, k < en → u k = ba k)) (fun u => [(hm, .inr (5, [.ref m1, .ref m2, .ref m3, .int (iI ((pa : Nat) : Int)), .int (iI ((pb : Nat) : Int)), .ref m4, .int (iI ((cp : Nat) : Int)), .ref m5, .int (iI ((ty : Nat) : Int)), .ref m6, .int (iI ((nx : Nat) : Int)), .int (iI (fi)), .int (iI (se)), .int (iI ((le : Nat) : Int)), .ref m7, .int (iI (bp)), .ref m8])), (m1, .inl (cI, 516, .inl (rI (sF cn en ac cu co au er ki bs)))), (m6, .inl (cI, 16, .inl (rN (u))))]) (va_A [(hm, .inr (5, [.ref m1, .ref m2, .ref m3, .int (iI ((pa : Nat) : Int)), .int (iI ((pb : Nat) : Int)), .ref m4, .int (iI ((cp : Nat) : Int)), .ref m5, .int (iI ((ty : Nat) : Int)), .ref m6, .int (iI ((nx : Nat) : Int)), .int (iI (fi)), .int (iI (se)), .int (iI ((le : Nat) : Int)), .ref m7, .int (iI (bp)), .ref m8])), (m1, .inl (cI, 516, .inl (rI (sF cn en ac cu co au er ki bs)))), (m6, .inl (cI, 16, .inl (rN (re))))] sz)) 0 0 (va_A [(hm, .inr (5, [.ref m1, .ref m2, .ref m3, .int (iI ((pa : Nat) : Int)), .int (iI ((pb : Nat) : Int)), .ref m4, .int (iI ((cp : Nat) : Int)), .ref m5, .int (iI ((ty : Nat) : Int)), .ref m6, .int (iI ((nx : Nat) : Int)), .int (iI (fi)), .int (iI (se)), .int (iI ((le : Nat) : Int)), .ref m7, .int (iI (bp)), .ref m8])), (m1, .inl (cI, 516, .inl (rI (sF cn en ac cu co au er ki bs)))), (m6, .inl (cI, 16, .inl (rN (re))))] sz) := by
  refine startW (cc := cX5_edit) (maxL := 3) (ret := (some .int)) (by decide) rfl (Nat.le_of_ble_eq_true rfl) ?_
  intro p e s m below meth c S hr hlocks hE hP A hD hA hS ls hl
  have hx := S.1
  have hb := S.2.1
  have hown := S.2.2.2.1
  have hts := S.2.2.2.2
  have hK := hE.1
  have hl : lv_has ls 3 [(0, .ref hm), (1, .int (iI ((e1 : Nat) : Int))), (2, .int (iI 6))] := hl
  refine lv_aload_n hx hb dX5_edit_0 rfl (lv_at hl 0 rfl) ?_
  refine lv_iload_n hx hb dX5_edit_1 rfl (lv_at hl 1 rfl) ?_
  refine callVO (n := 1) (As := [.int (iI ((e1 : Nat) : Int))]) (rest := []) (wc := [(hm, .inr (5, [.ref m1, .ref m2, .ref m3, .int (iI ((pa : Nat) : Int)), .int (iI ((pb : Nat) : Int)), .ref m4, .int (iI ((cp : Nat) : Int)), .ref m5, .int (iI ((ty : Nat) : Int)), .ref m6, .int (iI ((nx : Nat) : Int)), .int (iI (fi)), .int (iI (se)), .int (iI ((le : Nat) : Int)), .ref m7, .int (iI (bp)), .ref m8])), (m1, .inl (cI, 516, .inl (rI (sF cn en ac cu co au er ki bs))))]) S (m_isEdit l D cI cB cZ cO hm m1 m2 m3 m4 m5 m6 m7 m8 pa pb cp ty nx fi se le bp cn en ac cu co au er ki bs (((e1 : Nat) : Int)) (by first | assumption | (first | omega | (rw [dep_congr hrb_u21]))) (by first | assumption | (first | omega | (rw [dep_congr hrb_u21])))) gX5_edit_X5_isEdit rfl ⟨rfl, rfl⟩ (by decide +kernel) ⟨Nat.le_of_ble_eq_true rfl, Nat.le_of_ble_eq_true rfl⟩ hE hP [0, 1] rfl 5 0 rfl rfl rfl hl.1 rfl (Nat.le_of_ble_eq_true rfl) dX5_edit_2 ⟨Nat.le_of_ble_eq_true rfl, Nat.le_of_ble_eq_true rfl⟩ ?_
  refine r_ifb_eq (tgt := 18) hx hb dX5_edit_5 (by decide) (fun c_1 => ?_) (fun c_1 => ?_)
  · skip
    exfalso; omega
  · skip
    refine lv_iload_n hx hb dX5_edit_8 rfl (lv_at hl 2 rfl) ?_
    refine r_iconst hx hb dX5_edit_9 ?_
    refine r_bipush hx hb dX5_edit_10 (by decide) ?_
    rw [show (6 : Int) = (6) from by first | omega | (rw [dep_congr hrb_u21])]
    rw [show (0 : Int) = (0) from by first | omega | (rw [dep_congr hrb_u21])]
    rw [show (6 : Int) = (6) from by first | omega | (rw [dep_congr hrb_u21])]
    refine callSO (n := 3) (As := [.int (iI (6)), .int (iI (0)), .int (iI (6))]) (rest := []) (wc := []) S (m_in l D cI cB cZ cO 6 0 6 (by first | assumption | (first | omega | (rw [dep_congr hrb_u21]))) (by first | assumption | (first | omega | (rw [dep_congr hrb_u21]))) (by first | assumption | (first | omega | (rw [dep_congr hrb_u21])))) gX5_edit_X5_in rfl ⟨rfl, rfl⟩ (by decide +kernel) ⟨Nat.le_of_ble_eq_true rfl, Nat.le_of_ble_eq_true rfl⟩ hE hP [] rfl rfl hl.1 rfl (Nat.le_of_ble_eq_true rfl) dX5_edit_12 ⟨Nat.le_of_ble_eq_true rfl, Nat.le_of_ble_eq_true rfl⟩ ?_
    refine r_ifb_ne (tgt := 20) hx hb dX5_edit_15 (by decide) (fun c_2 => ?_) (fun c_2 => ?_)
    · skip
      refine lv_aload_n hx hb dX5_edit_20 rfl (lv_at hl 0 rfl) ?_
      refine callVX (n := 0) (As := []) (rest := []) (wc := [(hm, .inr (5, [.ref m1, .ref m2, .ref m3, .int (iI ((pa : Nat) : Int)), .int (iI ((pb : Nat) : Int)), .ref m4, .int (iI ((cp : Nat) : Int)), .ref m5, .int (iI ((ty : Nat) : Int)), .ref m6, .int (iI ((nx : Nat) : Int)), .int (iI (fi)), .int (iI (se)), .int (iI ((le : Nat) : Int)), .ref m7, .int (iI (bp)), .ref m8])), (m1, .inl (cI, 516, .inl (rI (sF cn en ac cu co au er ki bs)))), (m6, .inl (cI, 16, .inl (rN (re))))]) (wr := []) (ws2 := fun u => [(hm, .inr (5, [.ref m1, .ref m2, .ref m3, .int (iI ((pa : Nat) : Int)), .int (iI ((pb : Nat) : Int)), .ref m4, .int (iI ((cp : Nat) : Int)), .ref m5, .int (iI ((ty : Nat) : Int)), .ref m6, .int (iI ((nx : Nat) : Int)), .int (iI (fi)), .int (iI (se)), .int (iI ((le : Nat) : Int)), .ref m7, .int (iI (bp)), .ref m8])), (m1, .inl (cI, 516, .inl (rI (sF cn en ac cu co au er ki bs)))), (m6, .inl (cI, 16, .inl (rN (u))))]) S hE hP hD hS hA (m_findsRests l D cI cB cZ cO s.heap.size hm m1 m2 m3 m4 m5 m6 m7 m8 pa pb cp ty nx fi se le bp cn en ac cu co au er ki bs re ba (by first | assumption | (first | omega | (rw [dep_congr hrb_u21]))) (by first | assumption | (first | omega | (rw [dep_congr hrb_u21]))) (by first | assumption | (first | omega | (rw [dep_congr hrb_u21]))) (by first | assumption | (first | omega | (rw [dep_congr hrb_u21]))) (by first | assumption | (first | omega | (rw [dep_congr hrb_u21]))) (by first | assumption | (first | omega | (rw [dep_congr hrb_u21]))) (by first | assumption | (first | omega | (rw [dep_congr hrb_u21]))) (by first | assumption | (first | omega | (rw [dep_congr hrb_u21])))) gX5_edit_X5_findsRests rfl ⟨rfl, rfl⟩ (by decide +kernel) ⟨Nat.le_of_ble_eq_true rfl, Nat.le_of_ble_eq_true rfl⟩ [0, 1, 2] [] [0, 1, 2] rfl (by decide) rfl (by decide) (by decide) (by decide) (fun u => rfl) 5 0 rfl rfl rfl hl.1 rfl (Nat.le_of_ble_eq_true rfl) dX5_edit_21 ⟨Nat.le_of_ble_eq_true rfl, Nat.le_of_ble_eq_true rfl⟩ (fun u u21p H locs hP hD hS => ?_)
      generalize u = re2_u21 at u21p hP hD ⊢
      obtain ⟨hre2_u21, hrb_u21⟩ := u21p
      have hre2_u21 : ∀ k, re2_u21 k < 65536 := hre2_u21
      have hrb_u21 : ∀ k, k < en → re2_u21 k = ba k := hrb_u21
      have hP : va_P D vwCl [(hm, .inr (5, [.ref m1, .ref m2, .ref m3, .int (iI ((pa : Nat) : Int)), .int (iI ((pb : Nat) : Int)), .ref m4, .int (iI ((cp : Nat) : Int)), .ref m5, .int (iI ((ty : Nat) : Int)), .ref m6, .int (iI ((nx : Nat) : Int)), .int (iI (fi)), .int (iI (se)), .int (iI ((le : Nat) : Int)), .ref m7, .int (iI (bp)), .ref m8])), (m1, .inl (cI, 516, .inl (rI (sF cn en ac cu co au er ki bs)))), (m6, .inl (cI, 16, .inl (rN (re2_u21))))] H := hP
      have hD : va_D A [(hm, .inr (5, [.ref m1, .ref m2, .ref m3, .int (iI ((pa : Nat) : Int)), .int (iI ((pb : Nat) : Int)), .ref m4, .int (iI ((cp : Nat) : Int)), .ref m5, .int (iI ((ty : Nat) : Int)), .ref m6, .int (iI ((nx : Nat) : Int)), .int (iI (fi)), .int (iI (se)), .int (iI ((le : Nat) : Int)), .ref m7, .int (iI (bp)), .ref m8])), (m1, .inl (cI, 516, .inl (rI (sF cn en ac cu co au er ki bs)))), (m6, .inl (cI, 16, .inl (rN (re2_u21))))] := hD
      refine W.eq (g2 := F0 m 24 ls []) rfl ?_
      refine lv_iload_n hx hb dX5_edit_24 rfl (lv_at hl 2 rfl) ?_
      refine lv_tableOut (tgt := 127) hx hb dX5_edit_25 (by rw [iI_toInt ⟨by decide, by decide⟩]; decide) (by decide) ?_
      refine lv_aload_n hx hb dX5_edit_127 rfl (lv_at hl 0 rfl) ?_
      refine lv_iload_n hx hb dX5_edit_128 rfl (lv_at hl 1 rfl) ?_
      refine callVO (n := 1) (As := [.int (iI ((e1 : Nat) : Int))]) (rest := []) (wc := [(hm, .inr (5, [.ref m1, .ref m2, .ref m3, .int (iI ((pa : Nat) : Int)), .int (iI ((pb : Nat) : Int)), .ref m4, .int (iI ((cp : Nat) : Int)), .ref m5, .int (iI ((ty : Nat) : Int)), .ref m6, .int (iI ((nx : Nat) : Int)), .int (iI (fi)), .int (iI (se)), .int (iI ((le : Nat) : Int)), .ref m7, .int (iI (bp)), .ref m8])), (m1, .inl (cI, 516, .inl (rI (sF cn en ac cu co au er ki bs)))), (m6, .inl (cI, 16, .inl (rN (re2_u21))))]) S (m_above l D cI cB cZ cO hm m1 m2 m3 m4 m5 m6 m7 m8 pa pb cp ty nx fi se le bp cn en ac cu co au er ki bs re2_u21 e1 (by first | assumption | (first | omega | (rw [dep_congr hrb_u21]))) (by first | assumption | (first | omega | (rw [dep_congr hrb_u21]))) (by first | assumption | (first | omega | (rw [dep_congr hrb_u21])))) gX5_edit_X5_above rfl ⟨rfl, rfl⟩ (by decide +kernel) ⟨Nat.le_of_ble_eq_true rfl, Nat.le_of_ble_eq_true rfl⟩ hE hP [0, 1, 2] rfl 5 0 rfl rfl rfl hl.1 rfl (Nat.le_of_ble_eq_true rfl) dX5_edit_129 ⟨Nat.le_of_ble_eq_true rfl, Nat.le_of_ble_eq_true rfl⟩ ?_
      exact r_iretX hx hb hr hlocks hP hD hS (re2_u21) (congrArg (fun z => some (Value.int (iI z))) ((by first | omega | (rw [dep_congr hrb_u21]) : ((dep re2_u21 en (2 ^ e1) : Nat) : Int) = ((dep ba en (2 ^ e1) : Nat) : Int)).symm)) (⟨by assumption, by assumption⟩) rfl dX5_edit_132
    · skip
      exfalso; omega

set_option maxHeartbeats 4000000 in
set_option maxRecDepth 100000 in
theorem m_edit_4n (l : Launch) (D : va_G) (cI cB cZ cO : ClassId) (sz : Nat) (hm : Nat) (m1 : Nat) (m2 : Nat) (m3 : Nat) (m4 : Nat) (m5 : Nat) (m6 : Nat) (m7 : Nat) (m8 : Nat) (pa : Nat) (pb : Nat) (cp : Nat) (ty : Nat) (nx : Nat) (fi : Int) (se : Int) (le : Nat) (bp : Int) (cn : Nat) (en : Nat) (ac : Nat) (cu : Nat) (co : Nat → Nat) (au : Nat → Int) (er : Nat → Nat) (ki : Nat → Nat) (bs : Nat → Int) (re : Nat → Nat) (ba : Nat → Nat) (e1 : Nat) (hcn : cn ≤ 160) (hen : en ≤ 16) (hau : ∀ k, -1 ≤ au k ∧ au k < 16) (her : ∀ k, er k < 65536) (hbs : ∀ k, -1 ≤ bs k ∧ bs k < 16) (hki : ∀ k, ki k ≤ 1) (hre : ∀ k, re k < 65536) (hrq : RQ au er ki bs cn en ba) (hac : ac < 65536) (he1 : e1 < en) (hac1 : ¬ ac.testBit e1 = true) : Met l yX5_edit wsX5_edit ({ frames := 2, cells := 0, slots := 0, locals := 43 }) (va_Pc [.ref hm, .int (iI ((e1 : Nat) : Int)), .int (iI 4)] (RW D cI cB cZ cO sz [(hm, .inr (5, [.ref m1, .ref m2, .ref m3, .int (iI ((pa : Nat) : Int)), .int (iI ((pb : Nat) : Int)), .ref m4, .int (iI ((cp : Nat) : Int)), .ref m5, .int (iI ((ty : Nat) : Int)), .ref m6, .int (iI ((nx : Nat) : Int)), .int (iI (fi)), .int (iI (se)), .int (iI ((le : Nat) : Int)), .ref m7, .int (iI (bp)), .ref m8])), (m1, .inl (cI, 516, .inl (rI (sF cn en ac cu co au er ki bs)))), (m6, .inl (cI, 16, .inl (rN (re))))])) (QX D (S := (Nat → Nat)) (fun u => some (.int (iI (-9)))) (fun u => (∀ k, u k < 65536) ∧ (∀ k, k < en → u k = ba k)) (fun u => [(hm, .inr (5, [.ref m1, .ref m2, .ref m3, .int (iI ((pa : Nat) : Int)), .int (iI ((pb : Nat) : Int)), .ref m4, .int (iI ((cp : Nat) : Int)), .ref m5, .int (iI ((ty : Nat) : Int)), .ref m6, .int (iI ((nx : Nat) : Int)), .int (iI (fi)), .int (iI (se)), .int (iI ((le : Nat) : Int)), .ref m7, .int (iI (bp)), .ref m8])), (m1, .inl (cI, 516, .inl (rI (sF cn en ac cu co au er ki bs)))), (m6, .inl (cI, 16, .inl (rN (u))))]) (va_A [(hm, .inr (5, [.ref m1, .ref m2, .ref m3, .int (iI ((pa : Nat) : Int)), .int (iI ((pb : Nat) : Int)), .ref m4, .int (iI ((cp : Nat) : Int)), .ref m5, .int (iI ((ty : Nat) : Int)), .ref m6, .int (iI ((nx : Nat) : Int)), .int (iI (fi)), .int (iI (se)), .int (iI ((le : Nat) : Int)), .ref m7, .int (iI (bp)), .ref m8])), (m1, .inl (cI, 516, .inl (rI (sF cn en ac cu co au er ki bs)))), (m6, .inl (cI, 16, .inl (rN (re))))] sz)) 0 0 (va_A [(hm, .inr (5, [.ref m1, .ref m2, .ref m3, .int (iI ((pa : Nat) : Int)), .int (iI ((pb : Nat) : Int)), .ref m4, .int (iI ((cp : Nat) : Int)), .ref m5, .int (iI ((ty : Nat) : Int)), .ref m6, .int (iI ((nx : Nat) : Int)), .int (iI (fi)), .int (iI (se)), .int (iI ((le : Nat) : Int)), .ref m7, .int (iI (bp)), .ref m8])), (m1, .inl (cI, 516, .inl (rI (sF cn en ac cu co au er ki bs)))), (m6, .inl (cI, 16, .inl (rN (re))))] sz) := by
  refine startW (cc := cX5_edit) (maxL := 3) (ret := (some .int)) (by decide) rfl (Nat.le_of_ble_eq_true rfl) ?_
  intro p e s m below meth c S hr hlocks hE hP A hD hA hS ls hl
  have hx := S.1
  have hb := S.2.1
  have hown := S.2.2.2.1
  have hts := S.2.2.2.2
  have hK := hE.1
  have hl : lv_has ls 3 [(0, .ref hm), (1, .int (iI ((e1 : Nat) : Int))), (2, .int (iI 4))] := hl
  refine lv_aload_n hx hb dX5_edit_0 rfl (lv_at hl 0 rfl) ?_
  refine lv_iload_n hx hb dX5_edit_1 rfl (lv_at hl 1 rfl) ?_
  refine callVO (n := 1) (As := [.int (iI ((e1 : Nat) : Int))]) (rest := []) (wc := [(hm, .inr (5, [.ref m1, .ref m2, .ref m3, .int (iI ((pa : Nat) : Int)), .int (iI ((pb : Nat) : Int)), .ref m4, .int (iI ((cp : Nat) : Int)), .ref m5, .int (iI ((ty : Nat) : Int)), .ref m6, .int (iI ((nx : Nat) : Int)), .int (iI (fi)), .int (iI (se)), .int (iI ((le : Nat) : Int)), .ref m7, .int (iI (bp)), .ref m8])), (m1, .inl (cI, 516, .inl (rI (sF cn en ac cu co au er ki bs))))]) S (m_isEdit l D cI cB cZ cO hm m1 m2 m3 m4 m5 m6 m7 m8 pa pb cp ty nx fi se le bp cn en ac cu co au er ki bs (((e1 : Nat) : Int)) (by first | assumption | (omega)) (by first | assumption | (omega))) gX5_edit_X5_isEdit rfl ⟨rfl, rfl⟩ (by decide +kernel) ⟨Nat.le_of_ble_eq_true rfl, Nat.le_of_ble_eq_true rfl⟩ hE hP [0, 1] rfl 5 0 rfl rfl rfl hl.1 rfl (Nat.le_of_ble_eq_true rfl) dX5_edit_2 ⟨Nat.le_of_ble_eq_true rfl, Nat.le_of_ble_eq_true rfl⟩ ?_
  refine r_ifb_eq (tgt := 18) hx hb dX5_edit_5 (by decide) (fun c_1 => ?_) (fun c_1 => ?_)
  · skip
    exfalso; omega
  · skip
    refine lv_iload_n hx hb dX5_edit_8 rfl (lv_at hl 2 rfl) ?_
    refine r_iconst hx hb dX5_edit_9 ?_
    refine r_bipush hx hb dX5_edit_10 (by decide) ?_
    rw [show (4 : Int) = (4) from by omega]
    rw [show (0 : Int) = (0) from by omega]
    rw [show (6 : Int) = (6) from by omega]
    refine callSO (n := 3) (As := [.int (iI (4)), .int (iI (0)), .int (iI (6))]) (rest := []) (wc := []) S (m_in l D cI cB cZ cO 4 0 6 (by first | assumption | (omega)) (by first | assumption | (omega)) (by first | assumption | (omega))) gX5_edit_X5_in rfl ⟨rfl, rfl⟩ (by decide +kernel) ⟨Nat.le_of_ble_eq_true rfl, Nat.le_of_ble_eq_true rfl⟩ hE hP [] rfl rfl hl.1 rfl (Nat.le_of_ble_eq_true rfl) dX5_edit_12 ⟨Nat.le_of_ble_eq_true rfl, Nat.le_of_ble_eq_true rfl⟩ ?_
    refine r_ifb_ne (tgt := 20) hx hb dX5_edit_15 (by decide) (fun c_2 => ?_) (fun c_2 => ?_)
    · skip
      refine lv_aload_n hx hb dX5_edit_20 rfl (lv_at hl 0 rfl) ?_
      refine callVX (n := 0) (As := []) (rest := []) (wc := [(hm, .inr (5, [.ref m1, .ref m2, .ref m3, .int (iI ((pa : Nat) : Int)), .int (iI ((pb : Nat) : Int)), .ref m4, .int (iI ((cp : Nat) : Int)), .ref m5, .int (iI ((ty : Nat) : Int)), .ref m6, .int (iI ((nx : Nat) : Int)), .int (iI (fi)), .int (iI (se)), .int (iI ((le : Nat) : Int)), .ref m7, .int (iI (bp)), .ref m8])), (m1, .inl (cI, 516, .inl (rI (sF cn en ac cu co au er ki bs)))), (m6, .inl (cI, 16, .inl (rN (re))))]) (wr := []) (ws2 := fun u => [(hm, .inr (5, [.ref m1, .ref m2, .ref m3, .int (iI ((pa : Nat) : Int)), .int (iI ((pb : Nat) : Int)), .ref m4, .int (iI ((cp : Nat) : Int)), .ref m5, .int (iI ((ty : Nat) : Int)), .ref m6, .int (iI ((nx : Nat) : Int)), .int (iI (fi)), .int (iI (se)), .int (iI ((le : Nat) : Int)), .ref m7, .int (iI (bp)), .ref m8])), (m1, .inl (cI, 516, .inl (rI (sF cn en ac cu co au er ki bs)))), (m6, .inl (cI, 16, .inl (rN (u))))]) S hE hP hD hS hA (m_findsRests l D cI cB cZ cO s.heap.size hm m1 m2 m3 m4 m5 m6 m7 m8 pa pb cp ty nx fi se le bp cn en ac cu co au er ki bs re ba (by first | assumption | (omega)) (by first | assumption | (omega)) (by first | assumption | (omega)) (by first | assumption | (omega)) (by first | assumption | (omega)) (by first | assumption | (omega)) (by first | assumption | (omega)) (by first | assumption | (omega))) gX5_edit_X5_findsRests rfl ⟨rfl, rfl⟩ (by decide +kernel) ⟨Nat.le_of_ble_eq_true rfl, Nat.le_of_ble_eq_true rfl⟩ [0, 1, 2] [] [0, 1, 2] rfl (by decide) rfl (by decide) (by decide) (by decide) (fun u => rfl) 5 0 rfl rfl rfl hl.1 rfl (Nat.le_of_ble_eq_true rfl) dX5_edit_21 ⟨Nat.le_of_ble_eq_true rfl, Nat.le_of_ble_eq_true rfl⟩ (fun u u21p H locs hP hD hS => ?_)
      generalize u = re2_u21 at u21p hP hD ⊢
      obtain ⟨hre2_u21, hrb_u21⟩ := u21p
      have hre2_u21 : ∀ k, re2_u21 k < 65536 := hre2_u21
      have hrb_u21 : ∀ k, k < en → re2_u21 k = ba k := hrb_u21
      have hP : va_P D vwCl [(hm, .inr (5, [.ref m1, .ref m2, .ref m3, .int (iI ((pa : Nat) : Int)), .int (iI ((pb : Nat) : Int)), .ref m4, .int (iI ((cp : Nat) : Int)), .ref m5, .int (iI ((ty : Nat) : Int)), .ref m6, .int (iI ((nx : Nat) : Int)), .int (iI (fi)), .int (iI (se)), .int (iI ((le : Nat) : Int)), .ref m7, .int (iI (bp)), .ref m8])), (m1, .inl (cI, 516, .inl (rI (sF cn en ac cu co au er ki bs)))), (m6, .inl (cI, 16, .inl (rN (re2_u21))))] H := hP
      have hD : va_D A [(hm, .inr (5, [.ref m1, .ref m2, .ref m3, .int (iI ((pa : Nat) : Int)), .int (iI ((pb : Nat) : Int)), .ref m4, .int (iI ((cp : Nat) : Int)), .ref m5, .int (iI ((ty : Nat) : Int)), .ref m6, .int (iI ((nx : Nat) : Int)), .int (iI (fi)), .int (iI (se)), .int (iI ((le : Nat) : Int)), .ref m7, .int (iI (bp)), .ref m8])), (m1, .inl (cI, 516, .inl (rI (sF cn en ac cu co au er ki bs)))), (m6, .inl (cI, 16, .inl (rN (re2_u21))))] := hD
      refine W.eq (g2 := F0 m 24 ls []) rfl ?_
      refine lv_iload_n hx hb dX5_edit_24 rfl (lv_at hl 2 rfl) ?_
      refine lv_tableIn (off := 76) (tgt := 101) hx hb dX5_edit_25 (by rw [iI_toInt ⟨by decide, by decide⟩]; decide) (by rw [iI_toInt ⟨by decide, by decide⟩]; decide) (by rw [iI_toInt ⟨by decide, by decide⟩]; rfl) (by decide) ?_
      refine lv_aload_n hx hb dX5_edit_101 rfl (lv_at hl 0 rfl) ?_
      refine lv_iload_n hx hb dX5_edit_102 rfl (lv_at hl 1 rfl) ?_
      refine callVO (n := 1) (As := [.int (iI ((e1 : Nat) : Int))]) (rest := []) (wc := [(hm, .inr (5, [.ref m1, .ref m2, .ref m3, .int (iI ((pa : Nat) : Int)), .int (iI ((pb : Nat) : Int)), .ref m4, .int (iI ((cp : Nat) : Int)), .ref m5, .int (iI ((ty : Nat) : Int)), .ref m6, .int (iI ((nx : Nat) : Int)), .int (iI (fi)), .int (iI (se)), .int (iI ((le : Nat) : Int)), .ref m7, .int (iI (bp)), .ref m8])), (m1, .inl (cI, 516, .inl (rI (sF cn en ac cu co au er ki bs))))]) S (m_isActive l D cI cB cZ cO hm m1 m2 m3 m4 m5 m6 m7 m8 pa pb cp ty nx fi se le bp cn en ac cu co au er ki bs e1 (by first | assumption | (omega)) (by first | assumption | (omega))) gX5_edit_X5_isActive rfl ⟨rfl, rfl⟩ (by decide +kernel) ⟨Nat.le_of_ble_eq_true rfl, Nat.le_of_ble_eq_true rfl⟩ hE hP [0, 1] rfl 5 0 rfl rfl rfl hl.1 rfl (Nat.le_of_ble_eq_true rfl) dX5_edit_103 ⟨Nat.le_of_ble_eq_true rfl, Nat.le_of_ble_eq_true rfl⟩ ?_
      refine r_ifb_eq (tgt := 117) hx hb dX5_edit_106 (by decide) (fun c_4 => ?_) (fun c_4 => ?_)
      · skip
        refine r_bipush hx hb dX5_edit_117 (by decide) ?_
        exact r_iretX hx hb hr hlocks hP hD hS (re2_u21) (rfl) (⟨by assumption, by assumption⟩) rfl dX5_edit_119
      · skip
        exfalso; exact hac1 (by assumption)
    · skip
      exfalso; omega

set_option maxHeartbeats 4000000 in
set_option maxRecDepth 100000 in
theorem m_count_0 (l : Launch) (D : va_G) (cI cB cZ cO : ClassId) (hm : Nat) (m1 : Nat) (m2 : Nat) (m3 : Nat) (m4 : Nat) (m5 : Nat) (m6 : Nat) (m7 : Nat) (m8 : Nat) (pa : Nat) (pb : Nat) (cp : Nat) (ty : Nat) (nx : Nat) (fi : Int) (se : Int) (le : Nat) (bp : Int) (cn : Nat) (en : Nat) (ac : Nat) (cu : Nat) (co : Nat → Nat) (au : Nat → Int) (er : Nat → Nat) (ki : Nat → Nat) (bs : Nat → Int) (hcn : cn ≤ 160) (hac : ac < 65536) (hau : ∀ k, -1 ≤ au k ∧ au k < 16) (her : ∀ k, er k < 65536) : Met l yX5_count wsX5_count ({ frames := 3, cells := 0, slots := 0, locals := 66 }) (va_Pc [.ref hm, .int (iI 0)] (RO D cI cB cZ cO [(hm, .inr (5, [.ref m1, .ref m2, .ref m3, .int (iI ((pa : Nat) : Int)), .int (iI ((pb : Nat) : Int)), .ref m4, .int (iI ((cp : Nat) : Int)), .ref m5, .int (iI ((ty : Nat) : Int)), .ref m6, .int (iI ((nx : Nat) : Int)), .int (iI (fi)), .int (iI (se)), .int (iI ((le : Nat) : Int)), .ref m7, .int (iI (bp)), .ref m8])), (m1, .inl (cI, 516, .inl (rI (sF cn en ac cu co au er ki bs))))])) (QO ((cnt (visb (omF au) er ac) cn : Nat) : Int)) 0 0 (fun _ => False) := by
  refine startO (cc := cX5_count) (maxL := 5) (ret := (some .int)) (by decide) rfl (Nat.le_of_ble_eq_true rfl) ?_
  intro p e s m below meth c S hr hlocks hE hP ls hl
  have hx := S.1
  have hb := S.2.1
  have hown := S.2.2.2.1
  have hts := S.2.2.2.2
  have hK := hE.1
  have hl : lv_has ls 5 [(0, .ref hm), (1, .int (iI 0))] := hl
  refine r_iconst hx hb dX5_count_0 ?_
  refine lv_istore_n (lv' := [(2, .int (iI 0)), (0, .ref hm), (1, .int (iI 0))]) hx hb dX5_count_1 rfl hl (by decide) rfl (fun ls hl => ?_)
  refine lv_iload_n hx hb dX5_count_2 rfl (lv_at hl 2 rfl) ?_
  refine lv_tableIn (off := 41) (tgt := 44) hx hb dX5_count_3 (by rw [iI_toInt ⟨by decide, by decide⟩]; decide) (by rw [iI_toInt ⟨by decide, by decide⟩]; decide) (by rw [iI_toInt ⟨by decide, by decide⟩]; rfl) (by decide) ?_
  refine lv_aload_n hx hb dX5_count_44 rfl (lv_at hl 1 rfl) ?_
  refine callVO (n := 0) (As := []) (rest := []) (wc := [(hm, .inr (5, [.ref m1, .ref m2, .ref m3, .int (iI ((pa : Nat) : Int)), .int (iI ((pb : Nat) : Int)), .ref m4, .int (iI ((cp : Nat) : Int)), .ref m5, .int (iI ((ty : Nat) : Int)), .ref m6, .int (iI ((nx : Nat) : Int)), .int (iI (fi)), .int (iI (se)), .int (iI ((le : Nat) : Int)), .ref m7, .int (iI (bp)), .ref m8])), (m1, .inl (cI, 516, .inl (rI (sF cn en ac cu co au er ki bs))))]) S (m_length l D cI cB cZ cO hm m1 m2 m3 m4 m5 m6 m7 m8 pa pb cp ty nx fi se le bp cn en ac cu co au er ki bs (by first | assumption | (omega)) (by first | assumption | (omega)) (by first | assumption | (omega)) (by first | assumption | (omega))) gX5_count_X5_length rfl ⟨rfl, rfl⟩ (by decide +kernel) ⟨Nat.le_of_ble_eq_true rfl, Nat.le_of_ble_eq_true rfl⟩ hE hP [0, 1] rfl 5 0 rfl rfl rfl hl.1 rfl (Nat.le_of_ble_eq_true rfl) dX5_count_45 ⟨Nat.le_of_ble_eq_true rfl, Nat.le_of_ble_eq_true rfl⟩ ?_
  exact r_iretO hx hb hr hlocks (rfl) dX5_count_48

theorem kX5_count_7 : Cond.fieldLink RX5 7 "PricedUndoModel" "s" "[I" ∈ wsX5_count := by decide +kernel
theorem nX5_count_X5 : ∀ w ∈ u_ws RX5 TX5 17, w ∈ wsX5_count := by decide +kernel
set_option maxHeartbeats 4000000 in
set_option maxRecDepth 100000 in
theorem m_count_1 (l : Launch) (D : va_G) (cI cB cZ cO : ClassId) (hm : Nat) (m1 : Nat) (m2 : Nat) (m3 : Nat) (m4 : Nat) (m5 : Nat) (m6 : Nat) (m7 : Nat) (m8 : Nat) (pa : Nat) (pb : Nat) (cp : Nat) (ty : Nat) (nx : Nat) (fi : Int) (se : Int) (le : Nat) (bp : Int) (cn : Nat) (en : Nat) (ac : Nat) (cu : Nat) (co : Nat → Nat) (au : Nat → Int) (er : Nat → Nat) (ki : Nat → Nat) (bs : Nat → Int) (hcn : cn ≤ 160) (hac : ac < 65536) (hau : ∀ k, -1 ≤ au k ∧ au k < 16) (her : ∀ k, er k < 65536) : Met l yX5_count wsX5_count ({ frames := 0, cells := 0, slots := 0, locals := 0 }) (va_Pc [.ref hm, .int (iI 1)] (RO D cI cB cZ cO [(hm, .inr (5, [.ref m1, .ref m2, .ref m3, .int (iI ((pa : Nat) : Int)), .int (iI ((pb : Nat) : Int)), .ref m4, .int (iI ((cp : Nat) : Int)), .ref m5, .int (iI ((ty : Nat) : Int)), .ref m6, .int (iI ((nx : Nat) : Int)), .int (iI (fi)), .int (iI (se)), .int (iI ((le : Nat) : Int)), .ref m7, .int (iI (bp)), .ref m8])), (m1, .inl (cI, 516, .inl (rI (sF cn en ac cu co au er ki bs))))])) (QO ((cn : Nat) : Int)) 0 0 (fun _ => False) := by
  refine startO (cc := cX5_count) (maxL := 5) (ret := (some .int)) (by decide) rfl (Nat.le_of_ble_eq_true rfl) ?_
  intro p e s m below meth c S hr hlocks hE hP ls hl
  have hx := S.1
  have hb := S.2.1
  have hown := S.2.2.2.1
  have hts := S.2.2.2.2
  have hK := hE.1
  have hl : lv_has ls 5 [(0, .ref hm), (1, .int (iI 1))] := hl
  refine r_iconst hx hb dX5_count_0 ?_
  refine lv_istore_n (lv' := [(2, .int (iI 0)), (0, .ref hm), (1, .int (iI 1))]) hx hb dX5_count_1 rfl hl (by decide) rfl (fun ls hl => ?_)
  refine lv_iload_n hx hb dX5_count_2 rfl (lv_at hl 2 rfl) ?_
  refine lv_tableIn (off := 46) (tgt := 49) hx hb dX5_count_3 (by rw [iI_toInt ⟨by decide, by decide⟩]; decide) (by rw [iI_toInt ⟨by decide, by decide⟩]; decide) (by rw [iI_toInt ⟨by decide, by decide⟩]; rfl) (by decide) ?_
  refine lv_aload_n hx hb dX5_count_49 rfl (lv_at hl 1 rfl) ?_
  refine va_get (D := D) (ci := 5) (v := .ref m1) (C := RX5) (T := TX5) (N := 17) hx hb hts nX5_count_X5 hown hK hP 0 rfl rfl 0 (by decide) (hts _ kX5_count_7) (fun _ h9 => h9) rfl dX5_count_50 ?_
  refine r_iconst hx hb dX5_count_53 ?_
  refine r_ialdV (v := ((cn : Nat) : Int)) hx hb hK hP 1 0 rfl rfl (0) (rfl) (by decide) (by decide) (rfl) dX5_count_54 ?_
  exact r_iretO hx hb hr hlocks (rfl) dX5_count_55

set_option maxHeartbeats 4000000 in
set_option maxRecDepth 100000 in
theorem m_count_2 (l : Launch) (D : va_G) (cI cB cZ cO : ClassId) (hm : Nat) (m1 : Nat) (m2 : Nat) (m3 : Nat) (m4 : Nat) (m5 : Nat) (m6 : Nat) (m7 : Nat) (m8 : Nat) (pa : Nat) (pb : Nat) (cp : Nat) (ty : Nat) (nx : Nat) (fi : Int) (se : Int) (le : Nat) (bp : Int) (cn : Nat) (en : Nat) (ac : Nat) (cu : Nat) (co : Nat → Nat) (au : Nat → Int) (er : Nat → Nat) (ki : Nat → Nat) (bs : Nat → Int) (hcn : cn ≤ 160) (hac : ac < 65536) (hau : ∀ k, -1 ≤ au k ∧ au k < 16) (her : ∀ k, er k < 65536) : Met l yX5_count wsX5_count ({ frames := 0, cells := 0, slots := 0, locals := 0 }) (va_Pc [.ref hm, .int (iI 2)] (RO D cI cB cZ cO [(hm, .inr (5, [.ref m1, .ref m2, .ref m3, .int (iI ((pa : Nat) : Int)), .int (iI ((pb : Nat) : Int)), .ref m4, .int (iI ((cp : Nat) : Int)), .ref m5, .int (iI ((ty : Nat) : Int)), .ref m6, .int (iI ((nx : Nat) : Int)), .int (iI (fi)), .int (iI (se)), .int (iI ((le : Nat) : Int)), .ref m7, .int (iI (bp)), .ref m8])), (m1, .inl (cI, 516, .inl (rI (sF cn en ac cu co au er ki bs))))])) (QO ((en : Nat) : Int)) 0 0 (fun _ => False) := by
  refine startO (cc := cX5_count) (maxL := 5) (ret := (some .int)) (by decide) rfl (Nat.le_of_ble_eq_true rfl) ?_
  intro p e s m below meth c S hr hlocks hE hP ls hl
  have hx := S.1
  have hb := S.2.1
  have hown := S.2.2.2.1
  have hts := S.2.2.2.2
  have hK := hE.1
  have hl : lv_has ls 5 [(0, .ref hm), (1, .int (iI 2))] := hl
  refine r_iconst hx hb dX5_count_0 ?_
  refine lv_istore_n (lv' := [(2, .int (iI 0)), (0, .ref hm), (1, .int (iI 2))]) hx hb dX5_count_1 rfl hl (by decide) rfl (fun ls hl => ?_)
  refine lv_iload_n hx hb dX5_count_2 rfl (lv_at hl 2 rfl) ?_
  refine lv_tableIn (off := 53) (tgt := 56) hx hb dX5_count_3 (by rw [iI_toInt ⟨by decide, by decide⟩]; decide) (by rw [iI_toInt ⟨by decide, by decide⟩]; decide) (by rw [iI_toInt ⟨by decide, by decide⟩]; rfl) (by decide) ?_
  refine lv_aload_n hx hb dX5_count_56 rfl (lv_at hl 1 rfl) ?_
  refine va_get (D := D) (ci := 5) (v := .ref m1) (C := RX5) (T := TX5) (N := 17) hx hb hts nX5_count_X5 hown hK hP 0 rfl rfl 0 (by decide) (hts _ kX5_count_7) (fun _ h9 => h9) rfl dX5_count_57 ?_
  refine r_iconst hx hb dX5_count_60 ?_
  refine r_ialdV (v := ((en : Nat) : Int)) hx hb hK hP 1 0 rfl rfl (1) (rfl) (by decide) (by decide) (rfl) dX5_count_61 ?_
  exact r_iretO hx hb hr hlocks (rfl) dX5_count_62

set_option maxHeartbeats 4000000 in
set_option maxRecDepth 100000 in
theorem m_count_3 (l : Launch) (D : va_G) (cI cB cZ cO : ClassId) (hm : Nat) (m1 : Nat) (m2 : Nat) (m3 : Nat) (m4 : Nat) (m5 : Nat) (m6 : Nat) (m7 : Nat) (m8 : Nat) (pa : Nat) (pb : Nat) (cp : Nat) (ty : Nat) (nx : Nat) (fi : Int) (se : Int) (le : Nat) (bp : Int) (cn : Nat) (en : Nat) (ac : Nat) (cu : Nat) (co : Nat → Nat) (au : Nat → Int) (er : Nat → Nat) (ki : Nat → Nat) (bs : Nat → Int) (hcn : cn ≤ 160) (hac : ac < 65536) (hau : ∀ k, -1 ≤ au k ∧ au k < 16) (her : ∀ k, er k < 65536) : Met l yX5_count wsX5_count ({ frames := 1, cells := 0, slots := 0, locals := 22 }) (va_Pc [.ref hm, .int (iI 3)] (RO D cI cB cZ cO [(hm, .inr (5, [.ref m1, .ref m2, .ref m3, .int (iI ((pa : Nat) : Int)), .int (iI ((pb : Nat) : Int)), .ref m4, .int (iI ((cp : Nat) : Int)), .ref m5, .int (iI ((ty : Nat) : Int)), .ref m6, .int (iI ((nx : Nat) : Int)), .int (iI (fi)), .int (iI (se)), .int (iI ((le : Nat) : Int)), .ref m7, .int (iI (bp)), .ref m8])), (m1, .inl (cI, 516, .inl (rI (sF cn en ac cu co au er ki bs))))])) (QO ((popc ac : Nat) : Int)) 0 0 (fun _ => False) := by
  refine startO (cc := cX5_count) (maxL := 5) (ret := (some .int)) (by decide) rfl (Nat.le_of_ble_eq_true rfl) ?_
  intro p e s m below meth c S hr hlocks hE hP ls hl
  have hx := S.1
  have hb := S.2.1
  have hown := S.2.2.2.1
  have hts := S.2.2.2.2
  have hK := hE.1
  have hl : lv_has ls 5 [(0, .ref hm), (1, .int (iI 3))] := hl
  refine r_iconst hx hb dX5_count_0 ?_
  refine lv_istore_n (lv' := [(2, .int (iI 0)), (0, .ref hm), (1, .int (iI 3))]) hx hb dX5_count_1 rfl hl (by decide) rfl (fun ls hl => ?_)
  refine lv_iload_n hx hb dX5_count_2 rfl (lv_at hl 2 rfl) ?_
  refine lv_tableIn (off := 60) (tgt := 63) hx hb dX5_count_3 (by rw [iI_toInt ⟨by decide, by decide⟩]; decide) (by rw [iI_toInt ⟨by decide, by decide⟩]; decide) (by rw [iI_toInt ⟨by decide, by decide⟩]; rfl) (by decide) ?_
  refine lv_aload_n hx hb dX5_count_63 rfl (lv_at hl 1 rfl) ?_
  refine va_get (D := D) (ci := 5) (v := .ref m1) (C := RX5) (T := TX5) (N := 17) hx hb hts nX5_count_X5 hown hK hP 0 rfl rfl 0 (by decide) (hts _ kX5_count_7) (fun _ h9 => h9) rfl dX5_count_64 ?_
  refine r_iconst hx hb dX5_count_67 ?_
  refine r_ialdV (v := ((ac : Nat) : Int)) hx hb hK hP 1 0 rfl rfl (2) (rfl) (by decide) (by decide) (rfl) dX5_count_68 ?_
  refine callSO (n := 1) (As := [.int (iI ((ac : Nat) : Int))]) (rest := []) (wc := []) S (m_bits l D cI cB cZ cO ac (by first | assumption | (omega))) gX5_count_X5_bits rfl ⟨rfl, rfl⟩ (by decide +kernel) ⟨Nat.le_of_ble_eq_true rfl, Nat.le_of_ble_eq_true rfl⟩ hE hP [] rfl rfl hl.1 rfl (Nat.le_of_ble_eq_true rfl) dX5_count_69 ⟨Nat.le_of_ble_eq_true rfl, Nat.le_of_ble_eq_true rfl⟩ ?_
  exact r_iretO hx hb hr hlocks (rfl) dX5_count_72

set_option maxHeartbeats 4000000 in
set_option maxRecDepth 100000 in
theorem m_count_4 (l : Launch) (D : va_G) (cI cB cZ cO : ClassId) (hm : Nat) (m1 : Nat) (m2 : Nat) (m3 : Nat) (m4 : Nat) (m5 : Nat) (m6 : Nat) (m7 : Nat) (m8 : Nat) (pa : Nat) (pb : Nat) (cp : Nat) (ty : Nat) (nx : Nat) (fi : Int) (se : Int) (le : Nat) (bp : Int) (cn : Nat) (en : Nat) (ac : Nat) (cu : Nat) (co : Nat → Nat) (au : Nat → Int) (er : Nat → Nat) (ki : Nat → Nat) (bs : Nat → Int) (hcn : cn ≤ 160) (hac : ac < 65536) (hau : ∀ k, -1 ≤ au k ∧ au k < 16) (her : ∀ k, er k < 65536) : Met l yX5_count wsX5_count ({ frames := 0, cells := 0, slots := 0, locals := 0 }) (va_Pc [.ref hm, .int (iI 4)] (RO D cI cB cZ cO [(hm, .inr (5, [.ref m1, .ref m2, .ref m3, .int (iI ((pa : Nat) : Int)), .int (iI ((pb : Nat) : Int)), .ref m4, .int (iI ((cp : Nat) : Int)), .ref m5, .int (iI ((ty : Nat) : Int)), .ref m6, .int (iI ((nx : Nat) : Int)), .int (iI (fi)), .int (iI (se)), .int (iI ((le : Nat) : Int)), .ref m7, .int (iI (bp)), .ref m8])), (m1, .inl (cI, 516, .inl (rI (sF cn en ac cu co au er ki bs))))])) (QO ((cu : Nat) : Int)) 0 0 (fun _ => False) := by
  refine startO (cc := cX5_count) (maxL := 5) (ret := (some .int)) (by decide) rfl (Nat.le_of_ble_eq_true rfl) ?_
  intro p e s m below meth c S hr hlocks hE hP ls hl
  have hx := S.1
  have hb := S.2.1
  have hown := S.2.2.2.1
  have hts := S.2.2.2.2
  have hK := hE.1
  have hl : lv_has ls 5 [(0, .ref hm), (1, .int (iI 4))] := hl
  refine r_iconst hx hb dX5_count_0 ?_
  refine lv_istore_n (lv' := [(2, .int (iI 0)), (0, .ref hm), (1, .int (iI 4))]) hx hb dX5_count_1 rfl hl (by decide) rfl (fun ls hl => ?_)
  refine lv_iload_n hx hb dX5_count_2 rfl (lv_at hl 2 rfl) ?_
  refine lv_tableIn (off := 70) (tgt := 73) hx hb dX5_count_3 (by rw [iI_toInt ⟨by decide, by decide⟩]; decide) (by rw [iI_toInt ⟨by decide, by decide⟩]; decide) (by rw [iI_toInt ⟨by decide, by decide⟩]; rfl) (by decide) ?_
  refine lv_aload_n hx hb dX5_count_73 rfl (lv_at hl 1 rfl) ?_
  refine va_get (D := D) (ci := 5) (v := .ref m1) (C := RX5) (T := TX5) (N := 17) hx hb hts nX5_count_X5 hown hK hP 0 rfl rfl 0 (by decide) (hts _ kX5_count_7) (fun _ h9 => h9) rfl dX5_count_74 ?_
  refine r_iconst hx hb dX5_count_77 ?_
  refine r_ialdV (v := ((cu : Nat) : Int)) hx hb hK hP 1 0 rfl rfl (3) (rfl) (by decide) (by decide) (rfl) dX5_count_78 ?_
  exact r_iretO hx hb hr hlocks (rfl) dX5_count_79

theorem kX5_count_79 : Cond.fieldLink RX5 79 "PricedUndoModel" "clipped" "I" ∈ wsX5_count := by decide +kernel
set_option maxHeartbeats 4000000 in
set_option maxRecDepth 100000 in
theorem m_count_5 (l : Launch) (D : va_G) (cI cB cZ cO : ClassId) (hm : Nat) (m1 : Nat) (m2 : Nat) (m3 : Nat) (m4 : Nat) (m5 : Nat) (m6 : Nat) (m7 : Nat) (m8 : Nat) (pa : Nat) (pb : Nat) (cp : Nat) (ty : Nat) (nx : Nat) (fi : Int) (se : Int) (le : Nat) (bp : Int) (cn : Nat) (en : Nat) (ac : Nat) (cu : Nat) (co : Nat → Nat) (au : Nat → Int) (er : Nat → Nat) (ki : Nat → Nat) (bs : Nat → Int) (hcn : cn ≤ 160) (hac : ac < 65536) (hau : ∀ k, -1 ≤ au k ∧ au k < 16) (her : ∀ k, er k < 65536) : Met l yX5_count wsX5_count ({ frames := 0, cells := 0, slots := 0, locals := 0 }) (va_Pc [.ref hm, .int (iI 5)] (RO D cI cB cZ cO [(hm, .inr (5, [.ref m1, .ref m2, .ref m3, .int (iI ((pa : Nat) : Int)), .int (iI ((pb : Nat) : Int)), .ref m4, .int (iI ((cp : Nat) : Int)), .ref m5, .int (iI ((ty : Nat) : Int)), .ref m6, .int (iI ((nx : Nat) : Int)), .int (iI (fi)), .int (iI (se)), .int (iI ((le : Nat) : Int)), .ref m7, .int (iI (bp)), .ref m8])), (m1, .inl (cI, 516, .inl (rI (sF cn en ac cu co au er ki bs))))])) (QO ((cp : Nat) : Int)) 0 0 (fun _ => False) := by
  refine startO (cc := cX5_count) (maxL := 5) (ret := (some .int)) (by decide) rfl (Nat.le_of_ble_eq_true rfl) ?_
  intro p e s m below meth c S hr hlocks hE hP ls hl
  have hx := S.1
  have hb := S.2.1
  have hown := S.2.2.2.1
  have hts := S.2.2.2.2
  have hK := hE.1
  have hl : lv_has ls 5 [(0, .ref hm), (1, .int (iI 5))] := hl
  refine r_iconst hx hb dX5_count_0 ?_
  refine lv_istore_n (lv' := [(2, .int (iI 0)), (0, .ref hm), (1, .int (iI 5))]) hx hb dX5_count_1 rfl hl (by decide) rfl (fun ls hl => ?_)
  refine lv_iload_n hx hb dX5_count_2 rfl (lv_at hl 2 rfl) ?_
  refine lv_tableIn (off := 77) (tgt := 80) hx hb dX5_count_3 (by rw [iI_toInt ⟨by decide, by decide⟩]; decide) (by rw [iI_toInt ⟨by decide, by decide⟩]; decide) (by rw [iI_toInt ⟨by decide, by decide⟩]; rfl) (by decide) ?_
  refine lv_aload_n hx hb dX5_count_80 rfl (lv_at hl 1 rfl) ?_
  refine va_get (D := D) (ci := 5) (v := .int (iI ((cp : Nat) : Int))) (C := RX5) (T := TX5) (N := 17) hx hb hts nX5_count_X5 hown hK hP 0 rfl rfl 6 (by decide) (hts _ kX5_count_79) (fun _ h9 => h9) rfl dX5_count_81 ?_
  exact r_iretO hx hb hr hlocks (rfl) dX5_count_84

set_option maxHeartbeats 4000000 in
set_option maxRecDepth 100000 in
theorem m_count_bad (l : Launch) (D : va_G) (cI cB cZ cO : ClassId) (hm : Nat) (m1 : Nat) (m2 : Nat) (m3 : Nat) (m4 : Nat) (m5 : Nat) (m6 : Nat) (m7 : Nat) (m8 : Nat) (pa : Nat) (pb : Nat) (cp : Nat) (ty : Nat) (nx : Nat) (fi : Int) (se : Int) (le : Nat) (bp : Int) (cn : Nat) (en : Nat) (ac : Nat) (cu : Nat) (co : Nat → Nat) (au : Nat → Int) (er : Nat → Nat) (ki : Nat → Nat) (bs : Nat → Int) (x : Int) (rx : rg x) (hbad : x < 0 ∨ 6 < x) : Met l yX5_count wsX5_count ({ frames := 0, cells := 0, slots := 0, locals := 0 }) (va_Pc [.ref hm, .int (iI (x))] (RO D cI cB cZ cO [(hm, .inr (5, [.ref m1, .ref m2, .ref m3, .int (iI ((pa : Nat) : Int)), .int (iI ((pb : Nat) : Int)), .ref m4, .int (iI ((cp : Nat) : Int)), .ref m5, .int (iI ((ty : Nat) : Int)), .ref m6, .int (iI ((nx : Nat) : Int)), .int (iI (fi)), .int (iI (se)), .int (iI ((le : Nat) : Int)), .ref m7, .int (iI (bp)), .ref m8])), (m1, .inl (cI, 516, .inl (rI (sF cn en ac cu co au er ki bs))))])) (QO (-1)) 0 0 (fun _ => False) := by
  refine startO (cc := cX5_count) (maxL := 5) (ret := (some .int)) (by decide) rfl (Nat.le_of_ble_eq_true rfl) ?_
  intro p e s m below meth c S hr hlocks hE hP ls hl
  have hx := S.1
  have hb := S.2.1
  have hown := S.2.2.2.1
  have hts := S.2.2.2.2
  have hK := hE.1
  have hl : lv_has ls 5 [(0, .ref hm), (1, .int (iI (x)))] := hl
  refine r_iconst hx hb dX5_count_0 ?_
  refine lv_istore_n (lv' := [(2, .int (iI 0)), (0, .ref hm), (1, .int (iI (x)))]) hx hb dX5_count_1 rfl hl (by decide) rfl (fun ls hl => ?_)
  refine lv_iload_n hx hb dX5_count_2 rfl (lv_at hl 2 rfl) ?_
  rcases (show (x) = 0 ∨ (x) = 1 ∨ (x) = 2 ∨ (x) = 3 ∨ (x) = 4 ∨ (x) = 5 ∨ (x) = 6 ∨ ((x) < 0 ∨ 6 < (x)) by omega) with c_1 | c_1 | c_1 | c_1 | c_1 | c_1 | c_1 | c_1
  · skip
    refine lv_tableIn (off := 41) (tgt := 44) hx hb dX5_count_3 (by rw [iI_toInt (by omega), c_1]; decide) (by rw [iI_toInt (by omega), c_1]; decide) (by rw [iI_toInt (by omega), c_1]; rfl) (by decide) ?_
    exfalso; omega
  · skip
    refine lv_tableIn (off := 46) (tgt := 49) hx hb dX5_count_3 (by rw [iI_toInt (by omega), c_1]; decide) (by rw [iI_toInt (by omega), c_1]; decide) (by rw [iI_toInt (by omega), c_1]; rfl) (by decide) ?_
    exfalso; omega
  · skip
    refine lv_tableIn (off := 53) (tgt := 56) hx hb dX5_count_3 (by rw [iI_toInt (by omega), c_1]; decide) (by rw [iI_toInt (by omega), c_1]; decide) (by rw [iI_toInt (by omega), c_1]; rfl) (by decide) ?_
    exfalso; omega
  · skip
    refine lv_tableIn (off := 60) (tgt := 63) hx hb dX5_count_3 (by rw [iI_toInt (by omega), c_1]; decide) (by rw [iI_toInt (by omega), c_1]; decide) (by rw [iI_toInt (by omega), c_1]; rfl) (by decide) ?_
    exfalso; omega
  · skip
    refine lv_tableIn (off := 70) (tgt := 73) hx hb dX5_count_3 (by rw [iI_toInt (by omega), c_1]; decide) (by rw [iI_toInt (by omega), c_1]; decide) (by rw [iI_toInt (by omega), c_1]; rfl) (by decide) ?_
    exfalso; omega
  · skip
    refine lv_tableIn (off := 77) (tgt := 80) hx hb dX5_count_3 (by rw [iI_toInt (by omega), c_1]; decide) (by rw [iI_toInt (by omega), c_1]; decide) (by rw [iI_toInt (by omega), c_1]; rfl) (by decide) ?_
    exfalso; omega
  · skip
    refine lv_tableIn (off := 82) (tgt := 85) hx hb dX5_count_3 (by rw [iI_toInt (by omega), c_1]; decide) (by rw [iI_toInt (by omega), c_1]; decide) (by rw [iI_toInt (by omega), c_1]; rfl) (by decide) ?_
    exfalso; omega
  · skip
    refine lv_tableOut (tgt := 142) hx hb dX5_count_3 (by rw [iI_toInt (by omega)]; exact c_1) (by decide) ?_
    refine r_iconst hx hb dX5_count_142 ?_
    exact r_iretO hx hb hr hlocks (rfl) dX5_count_143

set_option maxHeartbeats 4000000 in
set_option maxRecDepth 100000 in
theorem m_count_6 (l : Launch) (D : va_G) (cI cB cZ cO : ClassId) (sz : Nat) (hm : Nat) (m1 : Nat) (m2 : Nat) (m3 : Nat) (m4 : Nat) (m5 : Nat) (m6 : Nat) (m7 : Nat) (m8 : Nat) (pa : Nat) (pb : Nat) (cp : Nat) (ty : Nat) (nx : Nat) (fi : Int) (se : Int) (le : Nat) (bp : Int) (cn : Nat) (en : Nat) (ac : Nat) (cu : Nat) (co : Nat → Nat) (au : Nat → Int) (er : Nat → Nat) (ki : Nat → Nat) (bs : Nat → Int) (re : Nat → Nat) (ba : Nat → Nat) (hcn : cn ≤ 160) (hen : en ≤ 16) (hau : ∀ k, -1 ≤ au k ∧ au k < 16) (her : ∀ k, er k < 65536) (hbs : ∀ k, -1 ≤ bs k ∧ bs k < 16) (hki : ∀ k, ki k ≤ 1) (hre : ∀ k, re k < 65536) (hrq : RQ au er ki bs cn en ba) : Met l yX5_count wsX5_count ({ frames := 1, cells := 0, slots := 0, locals := 24 }) (va_Pc [.ref hm, .int (iI 6)] (RW D cI cB cZ cO sz [(hm, .inr (5, [.ref m1, .ref m2, .ref m3, .int (iI ((pa : Nat) : Int)), .int (iI ((pb : Nat) : Int)), .ref m4, .int (iI ((cp : Nat) : Int)), .ref m5, .int (iI ((ty : Nat) : Int)), .ref m6, .int (iI ((nx : Nat) : Int)), .int (iI (fi)), .int (iI (se)), .int (iI ((le : Nat) : Int)), .ref m7, .int (iI (bp)), .ref m8])), (m1, .inl (cI, 516, .inl (rI (sF cn en ac cu co au er ki bs)))), (m6, .inl (cI, 16, .inl (rN (re))))])) (QX D (S := (Nat → Nat)) (fun u => some (.int (iI ((cpF ba en : Nat) : Int)))) (fun u => (∀ k, u k < 65536) ∧ (∀ k, k < en → u k = ba k)) (fun u => [(hm, .inr (5, [.ref m1, .ref m2, .ref m3, .int (iI ((pa : Nat) : Int)), .int (iI ((pb : Nat) : Int)), .ref m4, .int (iI ((cp : Nat) : Int)), .ref m5, .int (iI ((ty : Nat) : Int)), .ref m6, .int (iI ((nx : Nat) : Int)), .int (iI (fi)), .int (iI (se)), .int (iI ((le : Nat) : Int)), .ref m7, .int (iI (bp)), .ref m8])), (m1, .inl (cI, 516, .inl (rI (sF cn en ac cu co au er ki bs)))), (m6, .inl (cI, 16, .inl (rN (u))))]) (va_A [(hm, .inr (5, [.ref m1, .ref m2, .ref m3, .int (iI ((pa : Nat) : Int)), .int (iI ((pb : Nat) : Int)), .ref m4, .int (iI ((cp : Nat) : Int)), .ref m5, .int (iI ((ty : Nat) : Int)), .ref m6, .int (iI ((nx : Nat) : Int)), .int (iI (fi)), .int (iI (se)), .int (iI ((le : Nat) : Int)), .ref m7, .int (iI (bp)), .ref m8])), (m1, .inl (cI, 516, .inl (rI (sF cn en ac cu co au er ki bs)))), (m6, .inl (cI, 16, .inl (rN (re))))] sz)) 0 0 (va_A [(hm, .inr (5, [.ref m1, .ref m2, .ref m3, .int (iI ((pa : Nat) : Int)), .int (iI ((pb : Nat) : Int)), .ref m4, .int (iI ((cp : Nat) : Int)), .ref m5, .int (iI ((ty : Nat) : Int)), .ref m6, .int (iI ((nx : Nat) : Int)), .int (iI (fi)), .int (iI (se)), .int (iI ((le : Nat) : Int)), .ref m7, .int (iI (bp)), .ref m8])), (m1, .inl (cI, 516, .inl (rI (sF cn en ac cu co au er ki bs)))), (m6, .inl (cI, 16, .inl (rN (re))))] sz) := by
  refine startW (cc := cX5_count) (maxL := 5) (ret := (some .int)) (by decide) rfl (Nat.le_of_ble_eq_true rfl) ?_
  intro p e s m below meth c S hr hlocks hE hP A hD hA hS ls hl
  have hx := S.1
  have hb := S.2.1
  have hown := S.2.2.2.1
  have hts := S.2.2.2.2
  have hK := hE.1
  have hl : lv_has ls 5 [(0, .ref hm), (1, .int (iI 6))] := hl
  refine r_iconst hx hb dX5_count_0 ?_
  refine lv_istore_n (lv' := [(2, .int (iI 0)), (0, .ref hm), (1, .int (iI 6))]) hx hb dX5_count_1 rfl hl (by decide) rfl (fun ls hl => ?_)
  refine lv_iload_n hx hb dX5_count_2 rfl (lv_at hl 2 rfl) ?_
  refine lv_tableIn (off := 82) (tgt := 85) hx hb dX5_count_3 (by rw [iI_toInt ⟨by decide, by decide⟩]; decide) (by rw [iI_toInt ⟨by decide, by decide⟩]; decide) (by rw [iI_toInt ⟨by decide, by decide⟩]; rfl) (by decide) ?_
  refine lv_aload_n hx hb dX5_count_85 rfl (lv_at hl 1 rfl) ?_
  refine callVX (n := 0) (As := []) (rest := []) (wc := [(hm, .inr (5, [.ref m1, .ref m2, .ref m3, .int (iI ((pa : Nat) : Int)), .int (iI ((pb : Nat) : Int)), .ref m4, .int (iI ((cp : Nat) : Int)), .ref m5, .int (iI ((ty : Nat) : Int)), .ref m6, .int (iI ((nx : Nat) : Int)), .int (iI (fi)), .int (iI (se)), .int (iI ((le : Nat) : Int)), .ref m7, .int (iI (bp)), .ref m8])), (m1, .inl (cI, 516, .inl (rI (sF cn en ac cu co au er ki bs)))), (m6, .inl (cI, 16, .inl (rN (re))))]) (wr := []) (ws2 := fun u => [(hm, .inr (5, [.ref m1, .ref m2, .ref m3, .int (iI ((pa : Nat) : Int)), .int (iI ((pb : Nat) : Int)), .ref m4, .int (iI ((cp : Nat) : Int)), .ref m5, .int (iI ((ty : Nat) : Int)), .ref m6, .int (iI ((nx : Nat) : Int)), .int (iI (fi)), .int (iI (se)), .int (iI ((le : Nat) : Int)), .ref m7, .int (iI (bp)), .ref m8])), (m1, .inl (cI, 516, .inl (rI (sF cn en ac cu co au er ki bs)))), (m6, .inl (cI, 16, .inl (rN (u))))]) S hE hP hD hS hA (m_findsRests l D cI cB cZ cO s.heap.size hm m1 m2 m3 m4 m5 m6 m7 m8 pa pb cp ty nx fi se le bp cn en ac cu co au er ki bs re ba (by first | assumption | (first | omega | (rw [show k = en by omega]))) (by first | assumption | (first | omega | (rw [show k = en by omega]))) (by first | assumption | (first | omega | (rw [show k = en by omega]))) (by first | assumption | (first | omega | (rw [show k = en by omega]))) (by first | assumption | (first | omega | (rw [show k = en by omega]))) (by first | assumption | (first | omega | (rw [show k = en by omega]))) (by first | assumption | (first | omega | (rw [show k = en by omega]))) (by first | assumption | (first | omega | (rw [show k = en by omega])))) gX5_count_X5_findsRests rfl ⟨rfl, rfl⟩ (by decide +kernel) ⟨Nat.le_of_ble_eq_true rfl, Nat.le_of_ble_eq_true rfl⟩ [0, 1, 2] [] [0, 1, 2] rfl (by decide) rfl (by decide) (by decide) (by decide) (fun u => rfl) 5 0 rfl rfl rfl hl.1 rfl (Nat.le_of_ble_eq_true rfl) dX5_count_86 ⟨Nat.le_of_ble_eq_true rfl, Nat.le_of_ble_eq_true rfl⟩ (fun u u86p H locs hP hD hS => ?_)
  generalize u = re2_u86 at u86p hP hD ⊢
  obtain ⟨hre2_u86, hrb_u86⟩ := u86p
  have hre2_u86 : ∀ k, re2_u86 k < 65536 := hre2_u86
  have hrb_u86 : ∀ k, k < en → re2_u86 k = ba k := hrb_u86
  have hP : va_P D vwCl [(hm, .inr (5, [.ref m1, .ref m2, .ref m3, .int (iI ((pa : Nat) : Int)), .int (iI ((pb : Nat) : Int)), .ref m4, .int (iI ((cp : Nat) : Int)), .ref m5, .int (iI ((ty : Nat) : Int)), .ref m6, .int (iI ((nx : Nat) : Int)), .int (iI (fi)), .int (iI (se)), .int (iI ((le : Nat) : Int)), .ref m7, .int (iI (bp)), .ref m8])), (m1, .inl (cI, 516, .inl (rI (sF cn en ac cu co au er ki bs)))), (m6, .inl (cI, 16, .inl (rN (re2_u86))))] H := hP
  have hD : va_D A [(hm, .inr (5, [.ref m1, .ref m2, .ref m3, .int (iI ((pa : Nat) : Int)), .int (iI ((pb : Nat) : Int)), .ref m4, .int (iI ((cp : Nat) : Int)), .ref m5, .int (iI ((ty : Nat) : Int)), .ref m6, .int (iI ((nx : Nat) : Int)), .int (iI (fi)), .int (iI (se)), .int (iI ((le : Nat) : Int)), .ref m7, .int (iI (bp)), .ref m8])), (m1, .inl (cI, 516, .inl (rI (sF cn en ac cu co au er ki bs)))), (m6, .inl (cI, 16, .inl (rN (re2_u86))))] := hD
  refine W.eq (g2 := F0 m 89 ls []) rfl ?_
  refine r_iconst hx hb dX5_count_89 ?_
  refine lv_istore_n (lv' := [(3, .int (iI 0)), (2, .int (iI 0)), (0, .ref hm), (1, .int (iI 6))]) hx hb dX5_count_90 rfl hl (by decide) rfl (fun ls hl => ?_)
  have loop_91 : ∀ (n_91 : Nat) (k : Nat) (rj : Nat → Nat), (en - k) < n_91 → (k ≤ en) → (∀ k, rj k < 65536) → (∀ k, k < en → rj k = ba k) → ∀ (H : Heap) (locs : List Loc), va_P D vwCl [(hm, .inr (5, [.ref m1, .ref m2, .ref m3, .int (iI ((pa : Nat) : Int)), .int (iI ((pb : Nat) : Int)), .ref m4, .int (iI ((cp : Nat) : Int)), .ref m5, .int (iI ((ty : Nat) : Int)), .ref m6, .int (iI ((nx : Nat) : Int)), .int (iI (fi)), .int (iI (se)), .int (iI ((le : Nat) : Int)), .ref m7, .int (iI (bp)), .ref m8])), (m1, .inl (cI, 516, .inl (rI (sF cn en ac cu co au er ki bs)))), (m6, .inl (cI, 16, .inl (rN (rj))))] H → va_D A [(hm, .inr (5, [.ref m1, .ref m2, .ref m3, .int (iI ((pa : Nat) : Int)), .int (iI ((pb : Nat) : Int)), .ref m4, .int (iI ((cp : Nat) : Int)), .ref m5, .int (iI ((ty : Nat) : Int)), .ref m6, .int (iI ((nx : Nat) : Int)), .int (iI (fi)), .int (iI (se)), .int (iI ((le : Nat) : Int)), .ref m7, .int (iI (bp)), .ref m8])), (m1, .inl (cI, 516, .inl (rI (sF cn en ac cu co au er ki bs)))), (m6, .inl (cI, 16, .inl (rN (rj))))] → va_S A s.heap H locs → ∀ (ls : Array Slot), lv_has ls 5 [(0, .ref hm), (1, .int (iI 6)), (2, .int (iI ((cpF ba k : Nat) : Int))), (3, .int (iI ((k : Nat) : Int)))] → W p l e ({ frames := 1, cells := 0, slots := 0, locals := 24 }) s m ([.ref hm, .int (iI 6)] : List Value).toArray below meth c H locs 0 0 (MQ below (QX D (S := (Nat → Nat)) (fun u => some (.int (iI ((cpF ba en : Nat) : Int)))) (fun u => (∀ k, u k < 65536) ∧ (∀ k, k < en → u k = ba k)) (fun u => [(hm, .inr (5, [.ref m1, .ref m2, .ref m3, .int (iI ((pa : Nat) : Int)), .int (iI ((pb : Nat) : Int)), .ref m4, .int (iI ((cp : Nat) : Int)), .ref m5, .int (iI ((ty : Nat) : Int)), .ref m6, .int (iI ((nx : Nat) : Int)), .int (iI (fi)), .int (iI (se)), .int (iI ((le : Nat) : Int)), .ref m7, .int (iI (bp)), .ref m8])), (m1, .inl (cI, 516, .inl (rI (sF cn en ac cu co au er ki bs)))), (m6, .inl (cI, 16, .inl (rN (u))))]) A) ([.ref hm, .int (iI 6)] : List Value).toArray s 0 0 A) (F0 m 91 ls []) := by
    intro n_91
    induction n_91 with
    | zero => intro k rj h_meas; exact absurd h_meas (Nat.not_lt_zero _)
    | succ n_91 ih_91 =>
      intro k rj h_m91 ik ir irb H locs hP hD hS ls hl
      refine lv_iload_n hx hb dX5_count_91 rfl (lv_at hl 3 rfl) ?_
      refine lv_aload_n hx hb dX5_count_92 rfl (lv_at hl 0 rfl) ?_
      refine va_get (D := D) (ci := 5) (v := .ref m1) (C := RX5) (T := TX5) (N := 17) hx hb hts nX5_count_X5 hown hK hP 0 rfl rfl 0 (by decide) (hts _ kX5_count_7) (fun _ h9 => h9) rfl dX5_count_93 ?_
      refine r_iconst hx hb dX5_count_96 ?_
      refine r_ialdV (v := ((en : Nat) : Int)) hx hb hK hP 1 0 rfl rfl (1) (rfl) (by decide) (by decide) (rfl) dX5_count_97 ?_
      refine r_icmp_ge (tgt := 140) hx hb (by first | omega | (rw [show k = en by omega])) (by first | omega | (rw [show k = en by omega])) dX5_count_98 (by decide) (fun c_2 => ?_) (fun c_2 => ?_)
      · skip
        refine lv_iload_n hx hb dX5_count_140 rfl (lv_at hl 2 rfl) ?_
        exact r_iretX hx hb hr hlocks hP hD hS (rj) (congrArg (fun z => some (Value.int (iI z))) ((by first | omega | (rw [show k = en by omega]) : ((cpF ba k : Nat) : Int) = ((cpF ba en : Nat) : Int)).symm)) (⟨by assumption, by assumption⟩) rfl dX5_count_141
      · skip
        refine r_iconst hx hb dX5_count_101 ?_
        refine lv_istore (lv' := [(4, .int (iI 0)), (0, .ref hm), (1, .int (iI 6)), (2, .int (iI ((cpF ba k : Nat) : Int))), (3, .int (iI ((k : Nat) : Int)))]) hx hb dX5_count_102 hl (by decide) rfl (fun ls hl => ?_)
        have loop_104 : ∀ (n_104 : Nat) (j : Nat), (k - j) < n_104 → (j ≤ k) → ∀ (H : Heap) (locs : List Loc), va_P D vwCl [(hm, .inr (5, [.ref m1, .ref m2, .ref m3, .int (iI ((pa : Nat) : Int)), .int (iI ((pb : Nat) : Int)), .ref m4, .int (iI ((cp : Nat) : Int)), .ref m5, .int (iI ((ty : Nat) : Int)), .ref m6, .int (iI ((nx : Nat) : Int)), .int (iI (fi)), .int (iI (se)), .int (iI ((le : Nat) : Int)), .ref m7, .int (iI (bp)), .ref m8])), (m1, .inl (cI, 516, .inl (rI (sF cn en ac cu co au er ki bs)))), (m6, .inl (cI, 16, .inl (rN (rj))))] H → va_D A [(hm, .inr (5, [.ref m1, .ref m2, .ref m3, .int (iI ((pa : Nat) : Int)), .int (iI ((pb : Nat) : Int)), .ref m4, .int (iI ((cp : Nat) : Int)), .ref m5, .int (iI ((ty : Nat) : Int)), .ref m6, .int (iI ((nx : Nat) : Int)), .int (iI (fi)), .int (iI (se)), .int (iI ((le : Nat) : Int)), .ref m7, .int (iI (bp)), .ref m8])), (m1, .inl (cI, 516, .inl (rI (sF cn en ac cu co au er ki bs)))), (m6, .inl (cI, 16, .inl (rN (rj))))] → va_S A s.heap H locs → ∀ (ls : Array Slot), lv_has ls 5 [(0, .ref hm), (1, .int (iI 6)), (2, .int (iI ((cpF ba k + cnt (freb ba k) j : Nat) : Int))), (3, .int (iI ((k : Nat) : Int))), (4, .int (iI ((j : Nat) : Int)))] → W p l e ({ frames := 1, cells := 0, slots := 0, locals := 24 }) s m ([.ref hm, .int (iI 6)] : List Value).toArray below meth c H locs 0 0 (MQ below (QX D (S := (Nat → Nat)) (fun u => some (.int (iI ((cpF ba en : Nat) : Int)))) (fun u => (∀ k, u k < 65536) ∧ (∀ k, k < en → u k = ba k)) (fun u => [(hm, .inr (5, [.ref m1, .ref m2, .ref m3, .int (iI ((pa : Nat) : Int)), .int (iI ((pb : Nat) : Int)), .ref m4, .int (iI ((cp : Nat) : Int)), .ref m5, .int (iI ((ty : Nat) : Int)), .ref m6, .int (iI ((nx : Nat) : Int)), .int (iI (fi)), .int (iI (se)), .int (iI ((le : Nat) : Int)), .ref m7, .int (iI (bp)), .ref m8])), (m1, .inl (cI, 516, .inl (rI (sF cn en ac cu co au er ki bs)))), (m6, .inl (cI, 16, .inl (rN (u))))]) A) ([.ref hm, .int (iI 6)] : List Value).toArray s 0 0 A) (F0 m 104 ls []) := by
          intro n_104
          induction n_104 with
          | zero => intro j h_meas; exact absurd h_meas (Nat.not_lt_zero _)
          | succ n_104 ih_104 =>
            intro j h_m104 ij H locs hP hD hS ls hl
            refine lv_iload hx hb dX5_count_104 (lv_at hl 4 rfl) ?_
            refine lv_iload_n hx hb dX5_count_106 rfl (lv_at hl 3 rfl) ?_
            refine r_icmp_ge (tgt := 134) hx hb (by first | omega | (rw [show k = en by omega])) (by first | omega | (rw [show k = en by omega])) dX5_count_107 (by decide) (fun c_3 => ?_) (fun c_3 => ?_)
            · skip
              refine lv_iinc (v := iI ((k + 1 : Nat) : Int)) (lv' := [(3, .int (iI ((k + 1 : Nat) : Int))), (0, .ref hm), (1, .int (iI 6)), (2, .int (iI ((cpF ba k + cnt (freb ba k) j : Nat) : Int))), (4, .int (iI ((j : Nat) : Int)))]) hx hb dX5_count_134 hl (k := 3) rfl ((iI_add _ _).trans (ii (rfl))) (by decide) rfl (fun ls hl => ?_)
              refine lv_goto (tgt := 91) hx hb dX5_count_137 (by decide) ?_
              have hl : lv_has ls 5 [(3, .int (iI ((k + 1 : Nat) : Int))), (0, .ref hm), (1, .int (iI 6)), (2, .int (iI ((cpF ba (k + 1) : Nat) : Int))), (4, .int (iI ((j : Nat) : Int)))] := lv_chg hl 3 2 rfl (show (((cpF ba k + cnt (freb ba k) j : Nat) : Int) : Int) = ((cpF ba (k + 1) : Nat) : Int) from by rw [show j = k by omega]; rfl) rfl
              exact ih_91 (k + 1) rj (by first | omega | (rw [show k = en by omega])) (by first | assumption | (first | omega | (rw [show k = en by omega]))) (by first | assumption | (first | omega | (rw [show k = en by omega]))) (by first | assumption | (first | omega | (rw [show k = en by omega]))) H locs hP hD hS ls (lv_sub hl [1, 2, 3, 0] rfl)
            · skip
              refine lv_iload_n hx hb dX5_count_110 rfl (lv_at hl 2 rfl) ?_
              refine lv_aload_n hx hb dX5_count_111 rfl (lv_at hl 0 rfl) ?_
              refine lv_iload_n hx hb dX5_count_112 rfl (lv_at hl 3 rfl) ?_
              refine lv_iload hx hb dX5_count_113 (lv_at hl 4 rfl) ?_
              refine callVO (n := 2) (As := [.int (iI ((k : Nat) : Int)), .int (iI ((j : Nat) : Int))]) (rest := [.int (iI ((cpF ba k + cnt (freb ba k) j : Nat) : Int))]) (wc := [(hm, .inr (5, [.ref m1, .ref m2, .ref m3, .int (iI ((pa : Nat) : Int)), .int (iI ((pb : Nat) : Int)), .ref m4, .int (iI ((cp : Nat) : Int)), .ref m5, .int (iI ((ty : Nat) : Int)), .ref m6, .int (iI ((nx : Nat) : Int)), .int (iI (fi)), .int (iI (se)), .int (iI ((le : Nat) : Int)), .ref m7, .int (iI (bp)), .ref m8])), (m1, .inl (cI, 516, .inl (rI (sF cn en ac cu co au er ki bs)))), (m6, .inl (cI, 16, .inl (rN (rj))))]) S (m_commutes l D cI cB cZ cO hm m1 m2 m3 m4 m5 m6 m7 m8 pa pb cp ty nx fi se le bp cn en ac cu co au er ki bs rj k j (by first | assumption | (first | omega | (rw [show k = en by omega]))) (by first | assumption | (first | omega | (rw [show k = en by omega]))) (by first | assumption | (first | omega | (rw [show k = en by omega])))) gX5_count_X5_commutes rfl ⟨rfl, rfl⟩ (by decide +kernel) ⟨Nat.le_of_ble_eq_true rfl, Nat.le_of_ble_eq_true rfl⟩ hE hP [0, 1, 2] rfl 5 0 rfl rfl rfl hl.1 rfl (Nat.le_of_ble_eq_true rfl) dX5_count_115 ⟨Nat.le_of_ble_eq_true rfl, Nat.le_of_ble_eq_true rfl⟩ ?_
              refine r_ifb_eq (tgt := 125) hx hb dX5_count_118 (by decide) (fun c_4 => ?_) (fun c_4 => ?_)
              · skip
                refine r_iconst hx hb dX5_count_125 ?_
                refine r_iadd (v := (((cpF ba k + cnt (freb ba k) j) + 0 : Nat) : Int)) hx hb (rfl) dX5_count_126 ?_
                refine lv_istore_n (lv' := [(2, .int (iI (((cpF ba k + cnt (freb ba k) j) + 0 : Nat) : Int))), (0, .ref hm), (1, .int (iI 6)), (3, .int (iI ((k : Nat) : Int))), (4, .int (iI ((j : Nat) : Int)))]) hx hb dX5_count_127 rfl hl (by decide) rfl (fun ls hl => ?_)
                refine lv_iinc (v := iI ((j + 1 : Nat) : Int)) (lv' := [(4, .int (iI ((j + 1 : Nat) : Int))), (2, .int (iI (((cpF ba k + cnt (freb ba k) j) + 0 : Nat) : Int))), (0, .ref hm), (1, .int (iI 6)), (3, .int (iI ((k : Nat) : Int)))]) hx hb dX5_count_128 hl (k := 4) rfl ((iI_add _ _).trans (ii (rfl))) (by decide) rfl (fun ls hl => ?_)
                refine lv_goto (tgt := 104) hx hb dX5_count_131 (by decide) ?_
                have hl : lv_has ls 5 [(4, .int (iI ((j + 1 : Nat) : Int))), (2, .int (iI ((cpF ba k + cnt (freb ba k) (j + 1) : Nat) : Int))), (0, .ref hm), (1, .int (iI 6)), (3, .int (iI ((k : Nat) : Int)))] := lv_chg hl 1 2 rfl (show ((((cpF ba k + cnt (freb ba k) j) + 0 : Nat) : Int) : Int) = ((cpF ba k + cnt (freb ba k) (j + 1) : Nat) : Int) from by first | (rw [cnt_t (show freb ba k j = true from decide_eq_true ((fre_comm irb (by omega) (by omega)).mp (by assumption)))]; rfl) | (rw [cnt_f (show ¬ freb ba k j = true from fun q => (by assumption : ¬ fre _ _ _) ((fre_comm irb (by omega) (by omega)).mpr (of_decide_eq_true q)))]; rfl)) rfl
                exact ih_104 (j + 1) (by first | omega | (rw [show k = en by omega])) (by first | assumption | (first | omega | (rw [show k = en by omega]))) H locs hP hD hS ls (lv_sub hl [2, 3, 1, 4, 0] rfl)
              · skip
                refine r_iconst hx hb dX5_count_121 ?_
                refine lv_goto (tgt := 126) hx hb dX5_count_122 (by decide) ?_
                refine r_iadd (v := (((cpF ba k + cnt (freb ba k) j) + 1 : Nat) : Int)) hx hb (rfl) dX5_count_126 ?_
                refine lv_istore_n (lv' := [(2, .int (iI (((cpF ba k + cnt (freb ba k) j) + 1 : Nat) : Int))), (0, .ref hm), (1, .int (iI 6)), (3, .int (iI ((k : Nat) : Int))), (4, .int (iI ((j : Nat) : Int)))]) hx hb dX5_count_127 rfl hl (by decide) rfl (fun ls hl => ?_)
                refine lv_iinc (v := iI ((j + 1 : Nat) : Int)) (lv' := [(4, .int (iI ((j + 1 : Nat) : Int))), (2, .int (iI (((cpF ba k + cnt (freb ba k) j) + 1 : Nat) : Int))), (0, .ref hm), (1, .int (iI 6)), (3, .int (iI ((k : Nat) : Int)))]) hx hb dX5_count_128 hl (k := 4) rfl ((iI_add _ _).trans (ii (rfl))) (by decide) rfl (fun ls hl => ?_)
                refine lv_goto (tgt := 104) hx hb dX5_count_131 (by decide) ?_
                have hl : lv_has ls 5 [(4, .int (iI ((j + 1 : Nat) : Int))), (2, .int (iI ((cpF ba k + cnt (freb ba k) (j + 1) : Nat) : Int))), (0, .ref hm), (1, .int (iI 6)), (3, .int (iI ((k : Nat) : Int)))] := lv_chg hl 1 2 rfl (show ((((cpF ba k + cnt (freb ba k) j) + 1 : Nat) : Int) : Int) = ((cpF ba k + cnt (freb ba k) (j + 1) : Nat) : Int) from by first | (rw [cnt_t (show freb ba k j = true from decide_eq_true ((fre_comm irb (by omega) (by omega)).mp (by assumption)))]; rfl) | (rw [cnt_f (show ¬ freb ba k j = true from fun q => (by assumption : ¬ fre _ _ _) ((fre_comm irb (by omega) (by omega)).mpr (of_decide_eq_true q)))]; rfl)) rfl
                exact ih_104 (j + 1) (by first | omega | (rw [show k = en by omega])) (by first | assumption | (first | omega | (rw [show k = en by omega]))) H locs hP hD hS ls (lv_sub hl [2, 3, 1, 4, 0] rfl)
        have hl : lv_has ls 5 [(4, .int (iI 0)), (0, .ref hm), (1, .int (iI 6)), (2, .int (iI ((cpF ba k + cnt (freb ba k) 0 : Nat) : Int))), (3, .int (iI ((k : Nat) : Int)))] := lv_chg hl 3 2 rfl (show (((cpF ba k : Nat) : Int) : Int) = ((cpF ba k + cnt (freb ba k) 0 : Nat) : Int) from by rfl) rfl
        exact loop_104 ((k - 0) + 1) 0 (by first | omega | (rw [show k = en by omega])) (by first | assumption | (first | omega | (rw [show k = en by omega]))) H locs hP hD hS ls (lv_sub hl [1, 2, 3, 4, 0] rfl)
  have hl : lv_has ls 5 [(3, .int (iI 0)), (2, .int (iI ((cpF ba 0 : Nat) : Int))), (0, .ref hm), (1, .int (iI 6))] := lv_chg hl 1 2 rfl (show (0 : Int) = ((cpF ba 0 : Nat) : Int) from by rfl) rfl
  exact loop_91 ((en - 0) + 1) 0 re2_u86 (by first | omega | (rw [show k = en by omega])) (by first | assumption | (first | omega | (rw [show k = en by omega]))) (by first | assumption | (first | omega | (rw [show k = en by omega]))) (by first | assumption | (first | omega | (rw [show k = en by omega]))) H locs hP hD hS ls (lv_sub hl [2, 3, 1, 0] rfl)
