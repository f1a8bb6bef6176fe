set_option maxHeartbeats 4000000 in
set_option maxRecDepth 100000 in
theorem m_erase_bad (l : Launch) (D : va_G) (cI cB cZ cO : ClassId) (hm : Nat) (m1 : Nat) (m2 : Nat) (m3 : Nat) (m4 : Nat) (m5 : Nat) (m6 : Nat) (m7 : Nat) (m8 : Nat) (pa : Nat) (pb : Nat) (cp : Nat) (ty : Nat) (nx : Nat) (fi : Int) (se : Int) (le : Nat) (bp : Int) (cn : Nat) (en : Nat) (ac : Nat) (cu : Nat) (co : Nat → Nat) (au : Nat → Int) (er : Nat → Nat) (ki : Nat → Nat) (bs : Nat → Int) (x : Int) (y : Int) (hcn : cn ≤ 160) (hac : ac < 65536) (hau : ∀ k, -1 ≤ au k ∧ au k < 16) (her : ∀ k, er k < 65536) (hen : en ≤ 16) (rx : rg x) (ry : rg y) (hbad : ¬ (0 ≤ x ∧ x < y ∧ y ≤ ((cnt (visb (omF au) er ac) cn : Nat) : Int))) : Met l yX5_erase wsX5_erase ({ frames := 4, cells := 0, slots := 0, locals := 93 }) (va_Pc [.ref hm, .int (iI (x)), .int (iI (y))] (RO D cI cB cZ cO [(hm, .inr (5, [.ref m1, .ref m2, .ref m3, .int (iI ((pa : Nat) : Int)), .int (iI ((pb : Nat) : Int)), .ref m4, .int (iI ((cp : Nat) : Int)), .ref m5, .int (iI ((ty : Nat) : Int)), .ref m6, .int (iI ((nx : Nat) : Int)), .int (iI (fi)), .int (iI (se)), .int (iI ((le : Nat) : Int)), .ref m7, .int (iI (bp)), .ref m8])), (m1, .inl (cI, 516, .inl (rI (sF cn en ac cu co au er ki bs))))])) (QO (-1)) 0 0 (fun _ => False) := by
  refine startO (cc := cX5_erase) (maxL := 3) (ret := (some .int)) (by decide) rfl (Nat.le_of_ble_eq_true rfl) ?_
  intro p e s m below meth c S hr hlocks hE hP ls hl
  have hx := S.1
  have hb := S.2.1
  have hown := S.2.2.2.1
  have hts := S.2.2.2.2
  have hK := hE.1
  have hl : lv_has ls 3 [(0, .ref hm), (1, .int (iI (x))), (2, .int (iI (y)))] := hl
  refine lv_aload_n hx hb dX5_erase_0 rfl (lv_at hl 0 rfl) ?_
  refine lv_iload_n hx hb dX5_erase_1 rfl (lv_at hl 1 rfl) ?_
  refine lv_iload_n hx hb dX5_erase_2 rfl (lv_at hl 2 rfl) ?_
  refine callVO (n := 2) (As := [.int (iI (x)), .int (iI (y))]) (rest := []) (wc := [(hm, .inr (5, [.ref m1, .ref m2, .ref m3, .int (iI ((pa : Nat) : Int)), .int (iI ((pb : Nat) : Int)), .ref m4, .int (iI ((cp : Nat) : Int)), .ref m5, .int (iI ((ty : Nat) : Int)), .ref m6, .int (iI ((nx : Nat) : Int)), .int (iI (fi)), .int (iI (se)), .int (iI ((le : Nat) : Int)), .ref m7, .int (iI (bp)), .ref m8])), (m1, .inl (cI, 516, .inl (rI (sF cn en ac cu co au er ki bs))))]) S (m_erases_bad l D cI cB cZ cO hm m1 m2 m3 m4 m5 m6 m7 m8 pa pb cp ty nx fi se le bp cn en ac cu co au er ki bs x y (by first | assumption | (assumption)) (by first | assumption | (assumption)) (by first | assumption | (assumption)) (by first | assumption | (assumption)) (by first | assumption | (assumption)) (by first | assumption | (assumption)) (by first | assumption | (assumption)) (by first | assumption | (assumption))) gX5_erase_X5_erases rfl ⟨rfl, rfl⟩ (by decide +kernel) ⟨Nat.le_of_ble_eq_true rfl, Nat.le_of_ble_eq_true rfl⟩ hE hP [0, 1] rfl 5 0 rfl rfl rfl hl.1 rfl (Nat.le_of_ble_eq_true rfl) dX5_erase_3 ⟨Nat.le_of_ble_eq_true rfl, Nat.le_of_ble_eq_true rfl⟩ ?_
  exact r_iretO hx hb hr hlocks (rfl) dX5_erase_6

set_option maxHeartbeats 4000000 in
set_option maxRecDepth 100000 in
theorem m_erase_full (l : Launch) (D : va_G) (cI cB cZ cO : ClassId) (hm : Nat) (m1 : Nat) (m2 : Nat) (m3 : Nat) (m4 : Nat) (m5 : Nat) (m6 : Nat) (m7 : Nat) (m8 : Nat) (pa : Nat) (pb : Nat) (cp : Nat) (ty : Nat) (nx : Nat) (fi : Int) (se : Int) (le : Nat) (bp : Int) (cn : Nat) (en : Nat) (ac : Nat) (cu : Nat) (co : Nat → Nat) (au : Nat → Int) (er : Nat → Nat) (ki : Nat → Nat) (bs : Nat → Int) (x : Int) (y : Int) (hcn : cn ≤ 160) (hac : ac < 65536) (hau : ∀ k, -1 ≤ au k ∧ au k < 16) (her : ∀ k, er k < 65536) (hen : en ≤ 16) (rx : rg x) (ry : rg y) (hgood : 0 ≤ x ∧ x < y ∧ y ≤ ((cnt (visb (omF au) er ac) cn : Nat) : Int)) (hfull : en = 16) : Met l yX5_erase wsX5_erase ({ frames := 4, cells := 0, slots := 0, locals := 93 }) (va_Pc [.ref hm, .int (iI (x)), .int (iI (y))] (RO D cI cB cZ cO [(hm, .inr (5, [.ref m1, .ref m2, .ref m3, .int (iI ((pa : Nat) : Int)), .int (iI ((pb : Nat) : Int)), .ref m4, .int (iI ((cp : Nat) : Int)), .ref m5, .int (iI ((ty : Nat) : Int)), .ref m6, .int (iI ((nx : Nat) : Int)), .int (iI (fi)), .int (iI (se)), .int (iI ((le : Nat) : Int)), .ref m7, .int (iI (bp)), .ref m8])), (m1, .inl (cI, 516, .inl (rI (sF cn en ac cu co au er ki bs))))])) (QO (-3)) 0 0 (fun _ => False) := by
  refine startO (cc := cX5_erase) (maxL := 3) (ret := (some .int)) (by decide) rfl (Nat.le_of_ble_eq_true rfl) ?_
  intro p e s m below meth c S hr hlocks hE hP ls hl
  have hx := S.1
  have hb := S.2.1
  have hown := S.2.2.2.1
  have hts := S.2.2.2.2
  have hK := hE.1
  have hl : lv_has ls 3 [(0, .ref hm), (1, .int (iI (x))), (2, .int (iI (y)))] := hl
  refine lv_aload_n hx hb dX5_erase_0 rfl (lv_at hl 0 rfl) ?_
  refine lv_iload_n hx hb dX5_erase_1 rfl (lv_at hl 1 rfl) ?_
  refine lv_iload_n hx hb dX5_erase_2 rfl (lv_at hl 2 rfl) ?_
  refine callVO (n := 2) (As := [.int (iI (x)), .int (iI (y))]) (rest := []) (wc := [(hm, .inr (5, [.ref m1, .ref m2, .ref m3, .int (iI ((pa : Nat) : Int)), .int (iI ((pb : Nat) : Int)), .ref m4, .int (iI ((cp : Nat) : Int)), .ref m5, .int (iI ((ty : Nat) : Int)), .ref m6, .int (iI ((nx : Nat) : Int)), .int (iI (fi)), .int (iI (se)), .int (iI ((le : Nat) : Int)), .ref m7, .int (iI (bp)), .ref m8])), (m1, .inl (cI, 516, .inl (rI (sF cn en ac cu co au er ki bs))))]) S (m_erases_full l D cI cB cZ cO hm m1 m2 m3 m4 m5 m6 m7 m8 pa pb cp ty nx fi se le bp cn en ac cu co au er ki bs x y (by first | assumption | (assumption)) (by first | assumption | (assumption)) (by first | assumption | (assumption)) (by first | assumption | (assumption)) (by first | assumption | (assumption)) (by first | assumption | (assumption)) (by first | assumption | (assumption)) (by first | assumption | (assumption)) (by first | assumption | (assumption))) gX5_erase_X5_erases rfl ⟨rfl, rfl⟩ (by decide +kernel) ⟨Nat.le_of_ble_eq_true rfl, Nat.le_of_ble_eq_true rfl⟩ hE hP [0, 1] rfl 5 0 rfl rfl rfl hl.1 rfl (Nat.le_of_ble_eq_true rfl) dX5_erase_3 ⟨Nat.le_of_ble_eq_true rfl, Nat.le_of_ble_eq_true rfl⟩ ?_
  exact r_iretO hx hb hr hlocks (rfl) dX5_erase_6

set_option maxHeartbeats 4000000 in
set_option maxRecDepth 100000 in
theorem m_erase (l : Launch) (D : va_G) (cI cB cZ cO : ClassId) (sz : Nat) (hm : Nat) (m1 : Nat) (m2 : Nat) (m3 : Nat) (m4 : Nat) (m5 : Nat) (m6 : Nat) (m7 : Nat) (m8 : Nat) (pa : Nat) (pb : Nat) (cp : Nat) (ty : Nat) (nx : Nat) (fi : Int) (se : Int) (le : Nat) (bp : Int) (cn : Nat) (en : Nat) (ac : Nat) (cu : Nat) (co : Nat → Nat) (au : Nat → Int) (er : Nat → Nat) (ki : Nat → Nat) (bs : Nat → Int) (f1 : Nat) (t1 : Nat) (hcn : cn ≤ 160) (hac : ac < 65536) (hau : ∀ k, -1 ≤ au k ∧ au k < 16) (her : ∀ k, er k < 65536) (hen : en < 16) (hf1 : f1 < t1) (ht1 : t1 ≤ cnt (visb (omF au) er ac) cn) (hcu : cu ≤ 60) : Met l yX5_erase wsX5_erase ({ frames := 5, cells := 0, slots := 0, locals := 114 }) (va_Pc [.ref hm, .int (iI ((f1 : Nat) : Int)), .int (iI ((t1 : Nat) : Int))] (RW D cI cB cZ cO sz [(hm, .inr (5, [.ref m1, .ref m2, .ref m3, .int (iI ((pa : Nat) : Int)), .int (iI ((pb : Nat) : Int)), .ref m4, .int (iI ((cp : Nat) : Int)), .ref m5, .int (iI ((ty : Nat) : Int)), .ref m6, .int (iI ((nx : Nat) : Int)), .int (iI (fi)), .int (iI (se)), .int (iI ((le : Nat) : Int)), .ref m7, .int (iI (bp)), .ref m8])), (m1, .inl (cI, 516, .inl (rI (sF cn en ac cu co au er ki bs))))])) (QX D (S := Unit) (fun u => some (.int (iI ((en : Nat) : Int)))) (fun u => True) (fun u => [(hm, .inr (5, [.ref m1, .ref m2, .ref m3, .int (iI ((pa : Nat) : Int)), .int (iI ((pb : Nat) : Int)), .ref m4, .int (iI ((cp : Nat) : Int)), .ref m5, .int (iI ((ty : Nat) : Int)), .ref m6, .int (iI ((nx : Nat) : Int)), .int (iI (fi)), .int (iI (se)), .int (iI ((le : Nat) : Int)), .ref m7, .int (iI (bp)), .ref m8])), (m1, .inl (cI, 516, .inl (rI (sF cn (en + 1) (ac ||| 2 ^ en) (min cu (cnt (visb (omF au) (erM (visb (omF au) er ac) er f1 t1 en cn) (ac ||| 2 ^ en)) cn)) co au (erM (visb (omF au) er ac) er f1 t1 en cn) (up ki en (1)) (up bs en (-1))))))]) (va_A [(hm, .inr (5, [.ref m1, .ref m2, .ref m3, .int (iI ((pa : Nat) : Int)), .int (iI ((pb : Nat) : Int)), .ref m4, .int (iI ((cp : Nat) : Int)), .ref m5, .int (iI ((ty : Nat) : Int)), .ref m6, .int (iI ((nx : Nat) : Int)), .int (iI (fi)), .int (iI (se)), .int (iI ((le : Nat) : Int)), .ref m7, .int (iI (bp)), .ref m8])), (m1, .inl (cI, 516, .inl (rI (sF cn en ac cu co au er ki bs))))] sz)) 0 0 (va_A [(hm, .inr (5, [.ref m1, .ref m2, .ref m3, .int (iI ((pa : Nat) : Int)), .int (iI ((pb : Nat) : Int)), .ref m4, .int (iI ((cp : Nat) : Int)), .ref m5, .int (iI ((ty : Nat) : Int)), .ref m6, .int (iI ((nx : Nat) : Int)), .int (iI (fi)), .int (iI (se)), .int (iI ((le : Nat) : Int)), .ref m7, .int (iI (bp)), .ref m8])), (m1, .inl (cI, 516, .inl (rI (sF cn en ac cu co au er ki bs))))] sz) := by
  refine startW (cc := cX5_erase) (maxL := 3) (ret := (some .int)) (by decide) rfl (Nat.le_of_ble_eq_true rfl) ?_
  intro p e s m below meth c S hr hlocks hE hP A hD hA hS ls hl
  have hx := S.1
  have hb := S.2.1
  have hown := S.2.2.2.1
  have hts := S.2.2.2.2
  have hK := hE.1
  have hl : lv_has ls 3 [(0, .ref hm), (1, .int (iI ((f1 : Nat) : Int))), (2, .int (iI ((t1 : Nat) : Int)))] := hl
  refine lv_aload_n hx hb dX5_erase_0 rfl (lv_at hl 0 rfl) ?_
  refine lv_iload_n hx hb dX5_erase_1 rfl (lv_at hl 1 rfl) ?_
  refine lv_iload_n hx hb dX5_erase_2 rfl (lv_at hl 2 rfl) ?_
  refine callVX (n := 2) (As := [.int (iI ((f1 : Nat) : Int)), .int (iI ((t1 : Nat) : Int))]) (rest := []) (wc := [(hm, .inr (5, [.ref m1, .ref m2, .ref m3, .int (iI ((pa : Nat) : Int)), .int (iI ((pb : Nat) : Int)), .ref m4, .int (iI ((cp : Nat) : Int)), .ref m5, .int (iI ((ty : Nat) : Int)), .ref m6, .int (iI ((nx : Nat) : Int)), .int (iI (fi)), .int (iI (se)), .int (iI ((le : Nat) : Int)), .ref m7, .int (iI (bp)), .ref m8])), (m1, .inl (cI, 516, .inl (rI (sF cn en ac cu co au er ki bs))))]) (wr := []) (ws2 := fun u => [(hm, .inr (5, [.ref m1, .ref m2, .ref m3, .int (iI ((pa : Nat) : Int)), .int (iI ((pb : Nat) : Int)), .ref m4, .int (iI ((cp : Nat) : Int)), .ref m5, .int (iI ((ty : Nat) : Int)), .ref m6, .int (iI ((nx : Nat) : Int)), .int (iI (fi)), .int (iI (se)), .int (iI ((le : Nat) : Int)), .ref m7, .int (iI (bp)), .ref m8])), (m1, .inl (cI, 516, .inl (rI (sF cn (en + 1) (ac ||| 2 ^ en) (min cu (cnt (visb (omF au) (erM (visb (omF au) er ac) er f1 t1 en cn) (ac ||| 2 ^ en)) cn)) co au (erM (visb (omF au) er ac) er f1 t1 en cn) (up ki en (1)) (up bs en (-1))))))]) S hE hP hD hS hA (m_erases l D cI cB cZ cO s.heap.size hm m1 m2 m3 m4 m5 m6 m7 m8 pa pb cp ty nx fi se le bp cn en ac cu co au er ki bs f1 t1 (by first | assumption | (omega)) (by first | assumption | (omega)) (by first | assumption | (omega)) (by first | assumption | (omega)) (by first | assumption | (omega)) (by first | assumption | (omega)) (by first | assumption | (omega)) (by first | assumption | (omega))) gX5_erase_X5_erases rfl ⟨rfl, rfl⟩ (by decide +kernel) ⟨Nat.le_of_ble_eq_true rfl, Nat.le_of_ble_eq_true rfl⟩ [0, 1] [] [0, 1] rfl (by decide) rfl (by decide) (by decide) (by decide) (fun u => rfl) 5 0 rfl rfl rfl hl.1 rfl (Nat.le_of_ble_eq_true rfl) dX5_erase_3 ⟨Nat.le_of_ble_eq_true rfl, Nat.le_of_ble_eq_true rfl⟩ (fun u u3p H locs hP hD hS => ?_)
  have hP : va_P D vwCl [(hm, .inr (5, [.ref m1, .ref m2, .ref m3, .int (iI ((pa : Nat) : Int)), .int (iI ((pb : Nat) : Int)), .ref m4, .int (iI ((cp : Nat) : Int)), .ref m5, .int (iI ((ty : Nat) : Int)), .ref m6, .int (iI ((nx : Nat) : Int)), .int (iI (fi)), .int (iI (se)), .int (iI ((le : Nat) : Int)), .ref m7, .int (iI (bp)), .ref m8])), (m1, .inl (cI, 516, .inl (rI (sF cn (en + 1) (ac ||| 2 ^ en) (min cu (cnt (visb (omF au) (erM (visb (omF au) er ac) er f1 t1 en cn) (ac ||| 2 ^ en)) cn)) co au (erM (visb (omF au) er ac) er f1 t1 en cn) (up ki en (1)) (up bs en (-1))))))] H := hP
  have hD : va_D A [(hm, .inr (5, [.ref m1, .ref m2, .ref m3, .int (iI ((pa : Nat) : Int)), .int (iI ((pb : Nat) : Int)), .ref m4, .int (iI ((cp : Nat) : Int)), .ref m5, .int (iI ((ty : Nat) : Int)), .ref m6, .int (iI ((nx : Nat) : Int)), .int (iI (fi)), .int (iI (se)), .int (iI ((le : Nat) : Int)), .ref m7, .int (iI (bp)), .ref m8])), (m1, .inl (cI, 516, .inl (rI (sF cn (en + 1) (ac ||| 2 ^ en) (min cu (cnt (visb (omF au) (erM (visb (omF au) er ac) er f1 t1 en cn) (ac ||| 2 ^ en)) cn)) co au (erM (visb (omF au) er ac) er f1 t1 en cn) (up ki en (1)) (up bs en (-1))))))] := hD
  refine W.eq (g2 := F0 m 6 ls [.int (iI ((en : Nat) : Int))]) rfl ?_
  exact r_iretX hx hb hr hlocks hP hD hS () (rfl) (trivial) rfl dX5_erase_6

set_option maxHeartbeats 4000000 in
set_option maxRecDepth 100000 in
theorem m_setCursor_bad (l : Launch) (D : va_G) (cI cB cZ cO : ClassId) (hm : Nat) (m1 : Nat) (m2 : Nat) (m3 : Nat) (m4 : Nat) (m5 : Nat) (m6 : Nat) (m7 : Nat) (m8 : Nat) (pa : Nat) (pb : Nat) (cp : Nat) (ty : Nat) (nx : Nat) (fi : Int) (se : Int) (le : Nat) (bp : Int) (cn : Nat) (en : Nat) (ac : Nat) (cu : Nat) (co : Nat → Nat) (au : Nat → Int) (er : Nat → Nat) (ki : Nat → Nat) (bs : Nat → Int) (x : Int) (hcn : cn ≤ 160) (hac : ac < 65536) (hau : ∀ k, -1 ≤ au k ∧ au k < 16) (her : ∀ k, er k < 65536) (rx : rg x) (hbad : ¬ (0 ≤ x ∧ x ≤ ((cnt (visb (omF au) er ac) cn : Nat) : Int))) : Met l yX5_setCursor wsX5_setCursor ({ frames := 3, cells := 0, slots := 0, locals := 66 }) (va_Pc [.ref hm, .int (iI (x))] (RO D cI cB cZ cO [(hm, .inr (5, [.ref m1, .ref m2, .ref m3, .int (iI ((pa : Nat) : Int)), .int (iI ((pb : Nat) : Int)), .ref m4, .int (iI ((cp : Nat) : Int)), .ref m5, .int (iI ((ty : Nat) : Int)), .ref m6, .int (iI ((nx : Nat) : Int)), .int (iI (fi)), .int (iI (se)), .int (iI ((le : Nat) : Int)), .ref m7, .int (iI (bp)), .ref m8])), (m1, .inl (cI, 516, .inl (rI (sF cn en ac cu co au er ki bs))))])) (QO (-1)) 0 0 (fun _ => False) := by
  refine startO (cc := cX5_setCursor) (maxL := 3) (ret := (some .int)) (by decide) rfl (Nat.le_of_ble_eq_true rfl) ?_
  intro p e s m below meth c S hr hlocks hE hP ls hl
  have hx := S.1
  have hb := S.2.1
  have hown := S.2.2.2.1
  have hts := S.2.2.2.2
  have hK := hE.1
  have hl : lv_has ls 3 [(0, .ref hm), (1, .int (iI (x)))] := hl
  have hcl := cnt_le (visb (omF au) er ac) cn
  refine lv_iload_n hx hb dX5_setCursor_0 rfl (lv_at hl 1 rfl) ?_
  refine r_iconst hx hb dX5_setCursor_1 ?_
  refine lv_aload_n hx hb dX5_setCursor_2 rfl (lv_at hl 0 rfl) ?_
  refine callVO (n := 0) (As := []) (rest := [.int (iI 0), .int (iI (x))]) (wc := [(hm, .inr (5, [.ref m1, .ref m2, .ref m3, .int (iI ((pa : Nat) : Int)), .int (iI ((pb : Nat) : Int)), .ref m4, .int (iI ((cp : Nat) : Int)), .ref m5, .int (iI ((ty : Nat) : Int)), .ref m6, .int (iI ((nx : Nat) : Int)), .int (iI (fi)), .int (iI (se)), .int (iI ((le : Nat) : Int)), .ref m7, .int (iI (bp)), .ref m8])), (m1, .inl (cI, 516, .inl (rI (sF cn en ac cu co au er ki bs))))]) S (m_length l D cI cB cZ cO hm m1 m2 m3 m4 m5 m6 m7 m8 pa pb cp ty nx fi se le bp cn en ac cu co au er ki bs (by first | assumption | (omega)) (by first | assumption | (omega)) (by first | assumption | (omega)) (by first | assumption | (omega))) gX5_setCursor_X5_length rfl ⟨rfl, rfl⟩ (by decide +kernel) ⟨Nat.le_of_ble_eq_true rfl, Nat.le_of_ble_eq_true rfl⟩ hE hP [0, 1] rfl 5 0 rfl rfl rfl hl.1 rfl (Nat.le_of_ble_eq_true rfl) dX5_setCursor_3 ⟨Nat.le_of_ble_eq_true rfl, Nat.le_of_ble_eq_true rfl⟩ ?_
  rw [show (0 : Int) = (0) from by omega]
  refine callSO (n := 3) (As := [.int (iI (x)), .int (iI (0)), .int (iI ((cnt (visb (omF au) er ac) cn : Nat) : Int))]) (rest := []) (wc := []) S (m_in l D cI cB cZ cO x 0 (((cnt (visb (omF au) er ac) cn : Nat) : Int)) (by first | assumption | (omega)) (by first | assumption | (omega)) (by first | assumption | (omega))) gX5_setCursor_X5_in rfl ⟨rfl, rfl⟩ (by decide +kernel) ⟨Nat.le_of_ble_eq_true rfl, Nat.le_of_ble_eq_true rfl⟩ hE hP [] rfl rfl hl.1 rfl (Nat.le_of_ble_eq_true rfl) dX5_setCursor_6 ⟨Nat.le_of_ble_eq_true rfl, Nat.le_of_ble_eq_true rfl⟩ ?_
  refine r_ifb_ne (tgt := 14) hx hb dX5_setCursor_9 (by decide) (fun c_1 => ?_) (fun c_1 => ?_)
  · skip
    exfalso; exact hbad (by assumption)
  · skip
    refine r_iconst hx hb dX5_setCursor_12 ?_
    exact r_iretO hx hb hr hlocks (rfl) dX5_setCursor_13

theorem kX5_setCursor_7 : Cond.fieldLink RX5 7 "PricedUndoModel" "s" "[I" ∈ wsX5_setCursor := by decide +kernel
theorem nX5_setCursor_X5 : ∀ w ∈ u_ws RX5 TX5 17, w ∈ wsX5_setCursor := by decide +kernel
set_option maxHeartbeats 4000000 in
set_option maxRecDepth 100000 in
theorem m_setCursor (l : Launch) (D : va_G) (cI cB cZ cO : ClassId) (sz : Nat) (hm : Nat) (m1 : Nat) (m2 : Nat) (m3 : Nat) (m4 : Nat) (m5 : Nat) (m6 : Nat) (m7 : Nat) (m8 : Nat) (pa : Nat) (pb : Nat) (cp : Nat) (ty : Nat) (nx : Nat) (fi : Int) (se : Int) (le : Nat) (bp : Int) (cn : Nat) (en : Nat) (ac : Nat) (cu : Nat) (co : Nat → Nat) (au : Nat → Int) (er : Nat → Nat) (ki : Nat → Nat) (bs : Nat → Int) (x1 : Nat) (hcn : cn ≤ 160) (hac : ac < 65536) (hau : ∀ k, -1 ≤ au k ∧ au k < 16) (her : ∀ k, er k < 65536) (hx1 : x1 ≤ cnt (visb (omF au) er ac) cn) : Met l yX5_setCursor wsX5_setCursor ({ frames := 3, cells := 0, slots := 0, locals := 66 }) (va_Pc [.ref hm, .int (iI ((x1 : Nat) : Int))] (RW D cI cB cZ cO sz [(hm, .inr (5, [.ref m1, .ref m2, .ref m3, .int (iI ((pa : Nat) : Int)), .int (iI ((pb : Nat) : Int)), .ref m4, .int (iI ((cp : Nat) : Int)), .ref m5, .int (iI ((ty : Nat) : Int)), .ref m6, .int (iI ((nx : Nat) : Int)), .int (iI (fi)), .int (iI (se)), .int (iI ((le : Nat) : Int)), .ref m7, .int (iI (bp)), .ref m8])), (m1, .inl (cI, 516, .inl (rI (sF cn en ac cu co au er ki bs))))])) (QX D (S := Unit) (fun u => some (.int (iI ((cu : Nat) : Int)))) (fun u => True) (fun u => [(hm, .inr (5, [.ref m1, .ref m2, .ref m3, .int (iI ((pa : Nat) : Int)), .int (iI ((pb : Nat) : Int)), .ref m4, .int (iI ((cp : Nat) : Int)), .ref m5, .int (iI ((ty : Nat) : Int)), .ref m6, .int (iI ((nx : Nat) : Int)), .int (iI (fi)), .int (iI (se)), .int (iI ((le : Nat) : Int)), .ref m7, .int (iI (bp)), .ref m8])), (m1, .inl (cI, 516, .inl (rI (sF cn en ac x1 co au er ki bs))))]) (va_A [(hm, .inr (5, [.ref m1, .ref m2, .ref m3, .int (iI ((pa : Nat) : Int)), .int (iI ((pb : Nat) : Int)), .ref m4, .int (iI ((cp : Nat) : Int)), .ref m5, .int (iI ((ty : Nat) : Int)), .ref m6, .int (iI ((nx : Nat) : Int)), .int (iI (fi)), .int (iI (se)), .int (iI ((le : Nat) : Int)), .ref m7, .int (iI (bp)), .ref m8])), (m1, .inl (cI, 516, .inl (rI (sF cn en ac cu co au er ki bs))))] sz)) 0 0 (va_A [(hm, .inr (5, [.ref m1, .ref m2, .ref m3, .int (iI ((pa : Nat) : Int)), .int (iI ((pb : Nat) : Int)), .ref m4, .int (iI ((cp : Nat) : Int)), .ref m5, .int (iI ((ty : Nat) : Int)), .ref m6, .int (iI ((nx : Nat) : Int)), .int (iI (fi)), .int (iI (se)), .int (iI ((le : Nat) : Int)), .ref m7, .int (iI (bp)), .ref m8])), (m1, .inl (cI, 516, .inl (rI (sF cn en ac cu co au er ki bs))))] sz) := by
  refine startW (cc := cX5_setCursor) (maxL := 3) (ret := (some .int)) (by decide) rfl (Nat.le_of_ble_eq_true rfl) ?_
  intro p e s m below meth c S hr hlocks hE hP A hD hA hS ls hl
  have hx := S.1
  have hb := S.2.1
  have hown := S.2.2.2.1
  have hts := S.2.2.2.2
  have hK := hE.1
  have hl : lv_has ls 3 [(0, .ref hm), (1, .int (iI ((x1 : Nat) : Int)))] := hl
  have hcl := cnt_le (visb (omF au) er ac) cn
  refine lv_iload_n hx hb dX5_setCursor_0 rfl (lv_at hl 1 rfl) ?_
  refine r_iconst hx hb dX5_setCursor_1 ?_
  refine lv_aload_n hx hb dX5_setCursor_2 rfl (lv_at hl 0 rfl) ?_
  refine callVO (n := 0) (As := []) (rest := [.int (iI 0), .int (iI ((x1 : Nat) : Int))]) (wc := [(hm, .inr (5, [.ref m1, .ref m2, .ref m3, .int (iI ((pa : Nat) : Int)), .int (iI ((pb : Nat) : Int)), .ref m4, .int (iI ((cp : Nat) : Int)), .ref m5, .int (iI ((ty : Nat) : Int)), .ref m6, .int (iI ((nx : Nat) : Int)), .int (iI (fi)), .int (iI (se)), .int (iI ((le : Nat) : Int)), .ref m7, .int (iI (bp)), .ref m8])), (m1, .inl (cI, 516, .inl (rI (sF cn en ac cu co au er ki bs))))]) S (m_length l D cI cB cZ cO hm m1 m2 m3 m4 m5 m6 m7 m8 pa pb cp ty nx fi se le bp cn en ac cu co au er ki bs (by first | assumption | (omega)) (by first | assumption | (omega)) (by first | assumption | (omega)) (by first | assumption | (omega))) gX5_setCursor_X5_length rfl ⟨rfl, rfl⟩ (by decide +kernel) ⟨Nat.le_of_ble_eq_true rfl, Nat.le_of_ble_eq_true rfl⟩ hE hP [0, 1] rfl 5 0 rfl rfl rfl hl.1 rfl (Nat.le_of_ble_eq_true rfl) dX5_setCursor_3 ⟨Nat.le_of_ble_eq_true rfl, Nat.le_of_ble_eq_true rfl⟩ ?_
  rw [show (0 : Int) = (0) from by omega]
  refine callSO (n := 3) (As := [.int (iI ((x1 : Nat) : Int)), .int (iI (0)), .int (iI ((cnt (visb (omF au) er ac) cn : Nat) : Int))]) (rest := []) (wc := []) S (m_in l D cI cB cZ cO (((x1 : Nat) : Int)) 0 (((cnt (visb (omF au) er ac) cn : Nat) : Int)) (by first | assumption | (omega)) (by first | assumption | (omega)) (by first | assumption | (omega))) gX5_setCursor_X5_in rfl ⟨rfl, rfl⟩ (by decide +kernel) ⟨Nat.le_of_ble_eq_true rfl, Nat.le_of_ble_eq_true rfl⟩ hE hP [] rfl rfl hl.1 rfl (Nat.le_of_ble_eq_true rfl) dX5_setCursor_6 ⟨Nat.le_of_ble_eq_true rfl, Nat.le_of_ble_eq_true rfl⟩ ?_
  refine r_ifb_ne (tgt := 14) hx hb dX5_setCursor_9 (by decide) (fun c_1 => ?_) (fun c_1 => ?_)
  · skip
    refine lv_aload_n hx hb dX5_setCursor_14 rfl (lv_at hl 0 rfl) ?_
    refine va_get (D := D) (ci := 5) (v := .ref m1) (C := RX5) (T := TX5) (N := 17) hx hb hts nX5_setCursor_X5 hown hK hP 0 rfl rfl 0 (by decide) (hts _ kX5_setCursor_7) (fun _ h9 => h9) rfl dX5_setCursor_15 ?_
    refine r_iconst hx hb dX5_setCursor_18 ?_
    refine r_ialdV (v := ((cu : Nat) : Int)) hx hb hK hP 1 0 rfl rfl (3) (rfl) (by decide) (by decide) (rfl) dX5_setCursor_19 ?_
    refine lv_istore_n (lv' := [(2, .int (iI ((cu : Nat) : Int))), (0, .ref hm), (1, .int (iI ((x1 : Nat) : Int)))]) hx hb dX5_setCursor_20 rfl hl (by decide) rfl (fun ls hl => ?_)
    refine lv_aload_n hx hb dX5_setCursor_21 rfl (lv_at hl 1 rfl) ?_
    refine va_get (D := D) (ci := 5) (v := .ref m1) (C := RX5) (T := TX5) (N := 17) hx hb hts nX5_setCursor_X5 hown hK hP 0 rfl rfl 0 (by decide) (hts _ kX5_setCursor_7) (fun _ h9 => h9) rfl dX5_setCursor_22 ?_
    refine r_iconst hx hb dX5_setCursor_25 ?_
    refine lv_iload_n hx hb dX5_setCursor_26 rfl (lv_at hl 2 rfl) ?_
    refine r_iastV (g := sF cn en ac x1 co au er ki bs) (v := ((x1 : Nat) : Int)) hx hb hK hP hD hS 1 0 rfl rfl (3) (rfl) (by decide) (by decide) (sF_ucu) dX5_setCursor_27 (fun H locs hP hD hS => ?_)
    have hP : va_P D vwCl [(hm, .inr (5, [.ref m1, .ref m2, .ref m3, .int (iI ((pa : Nat) : Int)), .int (iI ((pb : Nat) : Int)), .ref m4, .int (iI ((cp : Nat) : Int)), .ref m5, .int (iI ((ty : Nat) : Int)), .ref m6, .int (iI ((nx : Nat) : Int)), .int (iI (fi)), .int (iI (se)), .int (iI ((le : Nat) : Int)), .ref m7, .int (iI (bp)), .ref m8])), (m1, .inl (cI, 516, .inl (rI (sF cn en ac x1 co au er ki bs))))] H := hP
    have hD : va_D A [(hm, .inr (5, [.ref m1, .ref m2, .ref m3, .int (iI ((pa : Nat) : Int)), .int (iI ((pb : Nat) : Int)), .ref m4, .int (iI ((cp : Nat) : Int)), .ref m5, .int (iI ((ty : Nat) : Int)), .ref m6, .int (iI ((nx : Nat) : Int)), .int (iI (fi)), .int (iI (se)), .int (iI ((le : Nat) : Int)), .ref m7, .int (iI (bp)), .ref m8])), (m1, .inl (cI, 516, .inl (rI (sF cn en ac x1 co au er ki bs))))] := hD
    refine lv_iload_n hx hb dX5_setCursor_28 rfl (lv_at hl 0 rfl) ?_
    exact r_iretX hx hb hr hlocks hP hD hS () (rfl) (trivial) rfl dX5_setCursor_29
  · skip
    exfalso; omega

set_option maxHeartbeats 4000000 in
set_option maxRecDepth 100000 in
theorem m_setPrices_bad (l : Launch) (D : va_G) (cI cB cZ cO : ClassId) (hm : Nat) (m1 : Nat) (m2 : Nat) (m3 : Nat) (m4 : Nat) (m5 : Nat) (m6 : Nat) (m7 : Nat) (m8 : Nat) (pa : Nat) (pb : Nat) (cp : Nat) (ty : Nat) (nx : Nat) (fi : Int) (se : Int) (le : Nat) (bp : Int) (cn : Nat) (en : Nat) (ac : Nat) (cu : Nat) (co : Nat → Nat) (au : Nat → Int) (er : Nat → Nat) (ki : Nat → Nat) (bs : Nat → Int) (x : Int) (y : Int) (rx : rg x) (ry : rg y) (hbad : ¬ (0 ≤ x ∧ x ≤ 9 ∧ 0 ≤ y ∧ y ≤ 9)) : Met l yX5_setPrices wsX5_setPrices ({ frames := 1, cells := 0, slots := 0, locals := 22 }) (va_Pc [.ref hm, .int (iI (x)), .int (iI (y))] (RO D cI cB cZ cO [(hm, .inr (5, [.ref m1, .ref m2, .ref m3, .int (iI ((pa : Nat) : Int)), .int (iI ((pb : Nat) : Int)), .ref m4, .int (iI ((cp : Nat) : Int)), .ref m5, .int (iI ((ty : Nat) : Int)), .ref m6, .int (iI ((nx : Nat) : Int)), .int (iI (fi)), .int (iI (se)), .int (iI ((le : Nat) : Int)), .ref m7, .int (iI (bp)), .ref m8])), (m1, .inl (cI, 516, .inl (rI (sF cn en ac cu co au er ki bs))))])) (QO (-1)) 0 0 (fun _ => False) := by
  refine startO (cc := cX5_setPrices) (maxL := 4) (ret := (some .int)) (by decide) rfl (Nat.le_of_ble_eq_true rfl) ?_
  intro p e s m below meth c S hr hlocks hE hP ls hl
  have hx := S.1
  have hb := S.2.1
  have hown := S.2.2.2.1
  have hts := S.2.2.2.2
  have hK := hE.1
  have hl : lv_has ls 4 [(0, .ref hm), (1, .int (iI (x))), (2, .int (iI (y)))] := hl
  refine lv_iload_n hx hb dX5_setPrices_0 rfl (lv_at hl 1 rfl) ?_
  refine r_iconst hx hb dX5_setPrices_1 ?_
  refine r_bipush hx hb dX5_setPrices_2 (by decide) ?_
  rw [show (0 : Int) = (0) from by omega]
  rw [show (9 : Int) = (9) from by omega]
  refine callSO (n := 3) (As := [.int (iI (x)), .int (iI (0)), .int (iI (9))]) (rest := []) (wc := []) S (m_in l D cI cB cZ cO x 0 9 (by first | assumption | (omega)) (by first | assumption | (omega)) (by first | assumption | (omega))) gX5_setPrices_X5_in rfl ⟨rfl, rfl⟩ (by decide +kernel) ⟨Nat.le_of_ble_eq_true rfl, Nat.le_of_ble_eq_true rfl⟩ hE hP [] rfl rfl hl.1 rfl (Nat.le_of_ble_eq_true rfl) dX5_setPrices_4 ⟨Nat.le_of_ble_eq_true rfl, Nat.le_of_ble_eq_true rfl⟩ ?_
  refine r_ifb_eq (tgt := 20) hx hb dX5_setPrices_7 (by decide) (fun c_1 => ?_) (fun c_1 => ?_)
  · skip
    refine r_iconst hx hb dX5_setPrices_20 ?_
    exact r_iretO hx hb hr hlocks (rfl) dX5_setPrices_21
  · skip
    refine lv_iload_n hx hb dX5_setPrices_10 rfl (lv_at hl 2 rfl) ?_
    refine r_iconst hx hb dX5_setPrices_11 ?_
    refine r_bipush hx hb dX5_setPrices_12 (by decide) ?_
    rw [show (0 : Int) = (0) from by omega]
    rw [show (9 : Int) = (9) from by omega]
    refine callSO (n := 3) (As := [.int (iI (y)), .int (iI (0)), .int (iI (9))]) (rest := []) (wc := []) S (m_in l D cI cB cZ cO y 0 9 (by first | assumption | (omega)) (by first | assumption | (omega)) (by first | assumption | (omega))) gX5_setPrices_X5_in rfl ⟨rfl, rfl⟩ (by decide +kernel) ⟨Nat.le_of_ble_eq_true rfl, Nat.le_of_ble_eq_true rfl⟩ hE hP [] rfl rfl hl.1 rfl (Nat.le_of_ble_eq_true rfl) dX5_setPrices_14 ⟨Nat.le_of_ble_eq_true rfl, Nat.le_of_ble_eq_true rfl⟩ ?_
    refine r_ifb_ne (tgt := 22) hx hb dX5_setPrices_17 (by decide) (fun c_2 => ?_) (fun c_2 => ?_)
    · skip
      exfalso; omega
    · skip
      refine r_iconst hx hb dX5_setPrices_20 ?_
      exact r_iretO hx hb hr hlocks (rfl) dX5_setPrices_21

theorem kX5_setPrices_20 : Cond.fieldLink RX5 20 "PricedUndoModel" "priceByAge" "I" ∈ wsX5_setPrices := by decide +kernel
theorem nX5_setPrices_X5 : ∀ w ∈ u_ws RX5 TX5 17, w ∈ wsX5_setPrices := by decide +kernel
theorem kX5_setPrices_24 : Cond.fieldLink RX5 24 "PricedUndoModel" "priceByPlace" "I" ∈ wsX5_setPrices := by decide +kernel
set_option maxHeartbeats 4000000 in
set_option maxRecDepth 100000 in
theorem m_setPrices (l : Launch) (D : va_G) (cI cB cZ cO : ClassId) (sz : Nat) (hm : Nat) (m1 : Nat) (m2 : Nat) (m3 : Nat) (m4 : Nat) (m5 : Nat) (m6 : Nat) (m7 : Nat) (m8 : Nat) (pa : Nat) (pb : Nat) (cp : Nat) (ty : Nat) (nx : Nat) (fi : Int) (se : Int) (le : Nat) (bp : Int) (cn : Nat) (en : Nat) (ac : Nat) (cu : Nat) (co : Nat → Nat) (au : Nat → Int) (er : Nat → Nat) (ki : Nat → Nat) (bs : Nat → Int) (x1 : Nat) (y1 : Nat) (hx1 : x1 ≤ 9) (hy1 : y1 ≤ 9) (hpa : pa ≤ 9) (hpb : pb ≤ 9) : Met l yX5_setPrices wsX5_setPrices ({ frames := 1, cells := 0, slots := 0, locals := 22 }) (va_Pc [.ref hm, .int (iI ((x1 : Nat) : Int)), .int (iI ((y1 : Nat) : Int))] (RW D cI cB cZ cO sz [(hm, .inr (5, [.ref m1, .ref m2, .ref m3, .int (iI ((pa : Nat) : Int)), .int (iI ((pb : Nat) : Int)), .ref m4, .int (iI ((cp : Nat) : Int)), .ref m5, .int (iI ((ty : Nat) : Int)), .ref m6, .int (iI ((nx : Nat) : Int)), .int (iI (fi)), .int (iI (se)), .int (iI ((le : Nat) : Int)), .ref m7, .int (iI (bp)), .ref m8])), (m1, .inl (cI, 516, .inl (rI (sF cn en ac cu co au er ki bs))))])) (QX D (S := Unit) (fun u => some (.int (iI (bI (¬ (pa = x1 ∧ pb = y1)))))) (fun u => True) (fun u => [(hm, .inr (5, [.ref m1, .ref m2, .ref m3, .int (iI ((x1 : Nat) : Int)), .int (iI ((y1 : Nat) : Int)), .ref m4, .int (iI ((cp : Nat) : Int)), .ref m5, .int (iI ((ty : Nat) : Int)), .ref m6, .int (iI ((nx : Nat) : Int)), .int (iI (fi)), .int (iI (se)), .int (iI ((le : Nat) : Int)), .ref m7, .int (iI (bp)), .ref m8])), (m1, .inl (cI, 516, .inl (rI (sF cn en ac cu co au er ki bs))))]) (va_A [(hm, .inr (5, [.ref m1, .ref m2, .ref m3, .int (iI ((pa : Nat) : Int)), .int (iI ((pb : Nat) : Int)), .ref m4, .int (iI ((cp : Nat) : Int)), .ref m5, .int (iI ((ty : Nat) : Int)), .ref m6, .int (iI ((nx : Nat) : Int)), .int (iI (fi)), .int (iI (se)), .int (iI ((le : Nat) : Int)), .ref m7, .int (iI (bp)), .ref m8])), (m1, .inl (cI, 516, .inl (rI (sF cn en ac cu co au er ki bs))))] sz)) 0 0 (va_A [(hm, .inr (5, [.ref m1, .ref m2, .ref m3, .int (iI ((pa : Nat) : Int)), .int (iI ((pb : Nat) : Int)), .ref m4, .int (iI ((cp : Nat) : Int)), .ref m5, .int (iI ((ty : Nat) : Int)), .ref m6, .int (iI ((nx : Nat) : Int)), .int (iI (fi)), .int (iI (se)), .int (iI ((le : Nat) : Int)), .ref m7, .int (iI (bp)), .ref m8])), (m1, .inl (cI, 516, .inl (rI (sF cn en ac cu co au er ki bs))))] sz) := by
  refine startW (cc := cX5_setPrices) (maxL := 4) (ret := (some .int)) (by decide) rfl (Nat.le_of_ble_eq_true rfl) ?_
  intro p e s m below meth c S hr hlocks hE hP A hD hA hS ls hl
  have hx := S.1
  have hb := S.2.1
  have hown := S.2.2.2.1
  have hts := S.2.2.2.2
  have hK := hE.1
  have hl : lv_has ls 4 [(0, .ref hm), (1, .int (iI ((x1 : Nat) : Int))), (2, .int (iI ((y1 : Nat) : Int)))] := hl
  refine lv_iload_n hx hb dX5_setPrices_0 rfl (lv_at hl 1 rfl) ?_
  refine r_iconst hx hb dX5_setPrices_1 ?_
  refine r_bipush hx hb dX5_setPrices_2 (by decide) ?_
  rw [show (0 : Int) = (0) from by omega]
  rw [show (9 : Int) = (9) from by omega]
  refine callSO (n := 3) (As := [.int (iI ((x1 : Nat) : Int)), .int (iI (0)), .int (iI (9))]) (rest := []) (wc := []) S (m_in l D cI cB cZ cO (((x1 : Nat) : Int)) 0 9 (by first | assumption | (omega)) (by first | assumption | (omega)) (by first | assumption | (omega))) gX5_setPrices_X5_in rfl ⟨rfl, rfl⟩ (by decide +kernel) ⟨Nat.le_of_ble_eq_true rfl, Nat.le_of_ble_eq_true rfl⟩ hE hP [] rfl rfl hl.1 rfl (Nat.le_of_ble_eq_true rfl) dX5_setPrices_4 ⟨Nat.le_of_ble_eq_true rfl, Nat.le_of_ble_eq_true rfl⟩ ?_
  refine r_ifb_eq (tgt := 20) hx hb dX5_setPrices_7 (by decide) (fun c_1 => ?_) (fun c_1 => ?_)
  · skip
    exfalso; omega
  · skip
    refine lv_iload_n hx hb dX5_setPrices_10 rfl (lv_at hl 2 rfl) ?_
    refine r_iconst hx hb dX5_setPrices_11 ?_
    refine r_bipush hx hb dX5_setPrices_12 (by decide) ?_
    rw [show (0 : Int) = (0) from by omega]
    rw [show (9 : Int) = (9) from by omega]
    refine callSO (n := 3) (As := [.int (iI ((y1 : Nat) : Int)), .int (iI (0)), .int (iI (9))]) (rest := []) (wc := []) S (m_in l D cI cB cZ cO (((y1 : Nat) : Int)) 0 9 (by first | assumption | (omega)) (by first | assumption | (omega)) (by first | assumption | (omega))) gX5_setPrices_X5_in rfl ⟨rfl, rfl⟩ (by decide +kernel) ⟨Nat.le_of_ble_eq_true rfl, Nat.le_of_ble_eq_true rfl⟩ hE hP [] rfl rfl hl.1 rfl (Nat.le_of_ble_eq_true rfl) dX5_setPrices_14 ⟨Nat.le_of_ble_eq_true rfl, Nat.le_of_ble_eq_true rfl⟩ ?_
    refine r_ifb_ne (tgt := 22) hx hb dX5_setPrices_17 (by decide) (fun c_2 => ?_) (fun c_2 => ?_)
    · skip
      refine lv_aload_n hx hb dX5_setPrices_22 rfl (lv_at hl 0 rfl) ?_
      refine va_get (D := D) (ci := 5) (v := .int (iI ((pa : Nat) : Int))) (C := RX5) (T := TX5) (N := 17) hx hb hts nX5_setPrices_X5 hown hK hP 0 rfl rfl 3 (by decide) (hts _ kX5_setPrices_20) (fun _ h9 => h9) rfl dX5_setPrices_23 ?_
      refine lv_iload_n hx hb dX5_setPrices_26 rfl (lv_at hl 1 rfl) ?_
      refine r_icmp_ne (tgt := 38) hx hb (by omega) (by omega) dX5_setPrices_27 (by decide) (fun c_3 => ?_) (fun c_3 => ?_)
      · skip
        refine r_iconst hx hb dX5_setPrices_38 ?_
        refine lv_goto (tgt := 43) hx hb dX5_setPrices_39 (by decide) ?_
        refine lv_istore_n (lv' := [(3, .int (iI 1)), (0, .ref hm), (1, .int (iI ((x1 : Nat) : Int))), (2, .int (iI ((y1 : Nat) : Int)))]) hx hb dX5_setPrices_43 rfl hl (by decide) rfl (fun ls hl => ?_)
        refine lv_aload_n hx hb dX5_setPrices_44 rfl (lv_at hl 1 rfl) ?_
        refine lv_iload_n hx hb dX5_setPrices_45 rfl (lv_at hl 2 rfl) ?_
        refine va_put (D := D) (ci := 5) (v := .int (iI ((x1 : Nat) : Int))) (ty := .int) (C := RX5) (T := TX5) (N := 17) hx hb hts nX5_setPrices_X5 tyX5 tyX5_ok nmX5 hown hK hP hD hS 0 rfl rfl 3 (by decide) (hts _ kX5_setPrices_20) (fun _ h9 => h9) rfl (by decide +kernel) rfl rfl (Nat.le_of_ble_eq_true rfl) dX5_setPrices_46 (fun H locs hP hD hS => ?_)
        have hP : va_P D vwCl [(hm, .inr (5, [.ref m1, .ref m2, .ref m3, .int (iI ((x1 : Nat) : Int)), .int (iI ((pb : Nat) : Int)), .ref m4, .int (iI ((cp : Nat) : Int)), .ref m5, .int (iI ((ty : Nat) : Int)), .ref m6, .int (iI ((nx : Nat) : Int)), .int (iI (fi)), .int (iI (se)), .int (iI ((le : Nat) : Int)), .ref m7, .int (iI (bp)), .ref m8])), (m1, .inl (cI, 516, .inl (rI (sF cn en ac cu co au er ki bs))))] H := hP
        have hD : va_D A [(hm, .inr (5, [.ref m1, .ref m2, .ref m3, .int (iI ((x1 : Nat) : Int)), .int (iI ((pb : Nat) : Int)), .ref m4, .int (iI ((cp : Nat) : Int)), .ref m5, .int (iI ((ty : Nat) : Int)), .ref m6, .int (iI ((nx : Nat) : Int)), .int (iI (fi)), .int (iI (se)), .int (iI ((le : Nat) : Int)), .ref m7, .int (iI (bp)), .ref m8])), (m1, .inl (cI, 516, .inl (rI (sF cn en ac cu co au er ki bs))))] := hD
        refine lv_aload_n hx hb dX5_setPrices_49 rfl (lv_at hl 1 rfl) ?_
        refine lv_iload_n hx hb dX5_setPrices_50 rfl (lv_at hl 3 rfl) ?_
        refine va_put (D := D) (ci := 5) (v := .int (iI ((y1 : Nat) : Int))) (ty := .int) (C := RX5) (T := TX5) (N := 17) hx hb hts nX5_setPrices_X5 tyX5 tyX5_ok nmX5 hown hK hP hD hS 0 rfl rfl 4 (by decide) (hts _ kX5_setPrices_24) (fun _ h9 => h9) rfl (by decide +kernel) rfl rfl (Nat.le_of_ble_eq_true rfl) dX5_setPrices_51 (fun H locs hP hD hS => ?_)
        have hP : va_P D vwCl [(hm, .inr (5, [.ref m1, .ref m2, .ref m3, .int (iI ((x1 : Nat) : Int)), .int (iI ((y1 : Nat) : Int)), .ref m4, .int (iI ((cp : Nat) : Int)), .ref m5, .int (iI ((ty : Nat) : Int)), .ref m6, .int (iI ((nx : Nat) : Int)), .int (iI (fi)), .int (iI (se)), .int (iI ((le : Nat) : Int)), .ref m7, .int (iI (bp)), .ref m8])), (m1, .inl (cI, 516, .inl (rI (sF cn en ac cu co au er ki bs))))] H := hP
        have hD : va_D A [(hm, .inr (5, [.ref m1, .ref m2, .ref m3, .int (iI ((x1 : Nat) : Int)), .int (iI ((y1 : Nat) : Int)), .ref m4, .int (iI ((cp : Nat) : Int)), .ref m5, .int (iI ((ty : Nat) : Int)), .ref m6, .int (iI ((nx : Nat) : Int)), .int (iI (fi)), .int (iI (se)), .int (iI ((le : Nat) : Int)), .ref m7, .int (iI (bp)), .ref m8])), (m1, .inl (cI, 516, .inl (rI (sF cn en ac cu co au er ki bs))))] := hD
        refine lv_iload_n hx hb dX5_setPrices_54 rfl (lv_at hl 0 rfl) ?_
        refine r_if_eq (tgt := 62) hx hb (⟨by decide, by decide⟩) dX5_setPrices_55 (by decide) (fun c_4 => ?_) (fun c_4 => ?_)
        · skip
          exact absurd c_4 (by decide)
        · skip
          refine r_iconst hx hb dX5_setPrices_58 ?_
          refine lv_goto (tgt := 63) hx hb dX5_setPrices_59 (by decide) ?_
          exact r_iretX hx hb hr hlocks hP hD hS () (congrArg (fun z => some (Value.int (iI z))) (((bI_t (by omega)).symm : 1 = (bI (¬ (pa = x1 ∧ pb = y1)))).symm)) (trivial) rfl dX5_setPrices_63
      · skip
        refine lv_aload_n hx hb dX5_setPrices_30 rfl (lv_at hl 0 rfl) ?_
        refine va_get (D := D) (ci := 5) (v := .int (iI ((pb : Nat) : Int))) (C := RX5) (T := TX5) (N := 17) hx hb hts nX5_setPrices_X5 hown hK hP 0 rfl rfl 4 (by decide) (hts _ kX5_setPrices_24) (fun _ h9 => h9) rfl dX5_setPrices_31 ?_
        refine lv_iload_n hx hb dX5_setPrices_34 rfl (lv_at hl 2 rfl) ?_
        refine r_icmp_eq (tgt := 42) hx hb (by omega) (by omega) dX5_setPrices_35 (by decide) (fun c_5 => ?_) (fun c_5 => ?_)
        · skip
          refine r_iconst hx hb dX5_setPrices_42 ?_
          refine lv_istore_n (lv' := [(3, .int (iI 0)), (0, .ref hm), (1, .int (iI ((x1 : Nat) : Int))), (2, .int (iI ((y1 : Nat) : Int)))]) hx hb dX5_setPrices_43 rfl hl (by decide) rfl (fun ls hl => ?_)
          refine lv_aload_n hx hb dX5_setPrices_44 rfl (lv_at hl 1 rfl) ?_
          refine lv_iload_n hx hb dX5_setPrices_45 rfl (lv_at hl 2 rfl) ?_
          refine va_put (D := D) (ci := 5) (v := .int (iI ((x1 : Nat) : Int))) (ty := .int) (C := RX5) (T := TX5) (N := 17) hx hb hts nX5_setPrices_X5 tyX5 tyX5_ok nmX5 hown hK hP hD hS 0 rfl rfl 3 (by decide) (hts _ kX5_setPrices_20) (fun _ h9 => h9) rfl (by decide +kernel) rfl rfl (Nat.le_of_ble_eq_true rfl) dX5_setPrices_46 (fun H locs hP hD hS => ?_)
          have hP : va_P D vwCl [(hm, .inr (5, [.ref m1, .ref m2, .ref m3, .int (iI ((x1 : Nat) : Int)), .int (iI ((pb : Nat) : Int)), .ref m4, .int (iI ((cp : Nat) : Int)), .ref m5, .int (iI ((ty : Nat) : Int)), .ref m6, .int (iI ((nx : Nat) : Int)), .int (iI (fi)), .int (iI (se)), .int (iI ((le : Nat) : Int)), .ref m7, .int (iI (bp)), .ref m8])), (m1, .inl (cI, 516, .inl (rI (sF cn en ac cu co au er ki bs))))] H := hP
          have hD : va_D A [(hm, .inr (5, [.ref m1, .ref m2, .ref m3, .int (iI ((x1 : Nat) : Int)), .int (iI ((pb : Nat) : Int)), .ref m4, .int (iI ((cp : Nat) : Int)), .ref m5, .int (iI ((ty : Nat) : Int)), .ref m6, .int (iI ((nx : Nat) : Int)), .int (iI (fi)), .int (iI (se)), .int (iI ((le : Nat) : Int)), .ref m7, .int (iI (bp)), .ref m8])), (m1, .inl (cI, 516, .inl (rI (sF cn en ac cu co au er ki bs))))] := hD
          refine lv_aload_n hx hb dX5_setPrices_49 rfl (lv_at hl 1 rfl) ?_
          refine lv_iload_n hx hb dX5_setPrices_50 rfl (lv_at hl 3 rfl) ?_
          refine va_put (D := D) (ci := 5) (v := .int (iI ((y1 : Nat) : Int))) (ty := .int) (C := RX5) (T := TX5) (N := 17) hx hb hts nX5_setPrices_X5 tyX5 tyX5_ok nmX5 hown hK hP hD hS 0 rfl rfl 4 (by decide) (hts _ kX5_setPrices_24) (fun _ h9 => h9) rfl (by decide +kernel) rfl rfl (Nat.le_of_ble_eq_true rfl) dX5_setPrices_51 (fun H locs hP hD hS => ?_)
          have hP : va_P D vwCl [(hm, .inr (5, [.ref m1, .ref m2, .ref m3, .int (iI ((x1 : Nat) : Int)), .int (iI ((y1 : Nat) : Int)), .ref m4, .int (iI ((cp : Nat) : Int)), .ref m5, .int (iI ((ty : Nat) : Int)), .ref m6, .int (iI ((nx : Nat) : Int)), .int (iI (fi)), .int (iI (se)), .int (iI ((le : Nat) : Int)), .ref m7, .int (iI (bp)), .ref m8])), (m1, .inl (cI, 516, .inl (rI (sF cn en ac cu co au er ki bs))))] H := hP
          have hD : va_D A [(hm, .inr (5, [.ref m1, .ref m2, .ref m3, .int (iI ((x1 : Nat) : Int)), .int (iI ((y1 : Nat) : Int)), .ref m4, .int (iI ((cp : Nat) : Int)), .ref m5, .int (iI ((ty : Nat) : Int)), .ref m6, .int (iI ((nx : Nat) : Int)), .int (iI (fi)), .int (iI (se)), .int (iI ((le : Nat) : Int)), .ref m7, .int (iI (bp)), .ref m8])), (m1, .inl (cI, 516, .inl (rI (sF cn en ac cu co au er ki bs))))] := hD
          refine lv_iload_n hx hb dX5_setPrices_54 rfl (lv_at hl 0 rfl) ?_
          refine r_if_eq (tgt := 62) hx hb (⟨by decide, by decide⟩) dX5_setPrices_55 (by decide) (fun c_6 => ?_) (fun c_6 => ?_)
          · skip
            refine r_iconst hx hb dX5_setPrices_62 ?_
            exact r_iretX hx hb hr hlocks hP hD hS () (congrArg (fun z => some (Value.int (iI z))) (((bI_f (by omega)).symm : 0 = (bI (¬ (pa = x1 ∧ pb = y1)))).symm)) (trivial) rfl dX5_setPrices_63
          · skip
            exact absurd c_6 (by decide)
        · skip
          refine r_iconst hx hb dX5_setPrices_38 ?_
          refine lv_goto (tgt := 43) hx hb dX5_setPrices_39 (by decide) ?_
          refine lv_istore_n (lv' := [(3, .int (iI 1)), (0, .ref hm), (1, .int (iI ((x1 : Nat) : Int))), (2, .int (iI ((y1 : Nat) : Int)))]) hx hb dX5_setPrices_43 rfl hl (by decide) rfl (fun ls hl => ?_)
          refine lv_aload_n hx hb dX5_setPrices_44 rfl (lv_at hl 1 rfl) ?_
          refine lv_iload_n hx hb dX5_setPrices_45 rfl (lv_at hl 2 rfl) ?_
          refine va_put (D := D) (ci := 5) (v := .int (iI ((x1 : Nat) : Int))) (ty := .int) (C := RX5) (T := TX5) (N := 17) hx hb hts nX5_setPrices_X5 tyX5 tyX5_ok nmX5 hown hK hP hD hS 0 rfl rfl 3 (by decide) (hts _ kX5_setPrices_20) (fun _ h9 => h9) rfl (by decide +kernel) rfl rfl (Nat.le_of_ble_eq_true rfl) dX5_setPrices_46 (fun H locs hP hD hS => ?_)
          have hP : va_P D vwCl [(hm, .inr (5, [.ref m1, .ref m2, .ref m3, .int (iI ((x1 : Nat) : Int)), .int (iI ((pb : Nat) : Int)), .ref m4, .int (iI ((cp : Nat) : Int)), .ref m5, .int (iI ((ty : Nat) : Int)), .ref m6, .int (iI ((nx : Nat) : Int)), .int (iI (fi)), .int (iI (se)), .int (iI ((le : Nat) : Int)), .ref m7, .int (iI (bp)), .ref m8])), (m1, .inl (cI, 516, .inl (rI (sF cn en ac cu co au er ki bs))))] H := hP
          have hD : va_D A [(hm, .inr (5, [.ref m1, .ref m2, .ref m3, .int (iI ((x1 : Nat) : Int)), .int (iI ((pb : Nat) : Int)), .ref m4, .int (iI ((cp : Nat) : Int)), .ref m5, .int (iI ((ty : Nat) : Int)), .ref m6, .int (iI ((nx : Nat) : Int)), .int (iI (fi)), .int (iI (se)), .int (iI ((le : Nat) : Int)), .ref m7, .int (iI (bp)), .ref m8])), (m1, .inl (cI, 516, .inl (rI (sF cn en ac cu co au er ki bs))))] := hD
          refine lv_aload_n hx hb dX5_setPrices_49 rfl (lv_at hl 1 rfl) ?_
          refine lv_iload_n hx hb dX5_setPrices_50 rfl (lv_at hl 3 rfl) ?_
          refine va_put (D := D) (ci := 5) (v := .int (iI ((y1 : Nat) : Int))) (ty := .int) (C := RX5) (T := TX5) (N := 17) hx hb hts nX5_setPrices_X5 tyX5 tyX5_ok nmX5 hown hK hP hD hS 0 rfl rfl 4 (by decide) (hts _ kX5_setPrices_24) (fun _ h9 => h9) rfl (by decide +kernel) rfl rfl (Nat.le_of_ble_eq_true rfl) dX5_setPrices_51 (fun H locs hP hD hS => ?_)
          have hP : va_P D vwCl [(hm, .inr (5, [.ref m1, .ref m2, .ref m3, .int (iI ((x1 : Nat) : Int)), .int (iI ((y1 : Nat) : Int)), .ref m4, .int (iI ((cp : Nat) : Int)), .ref m5, .int (iI ((ty : Nat) : Int)), .ref m6, .int (iI ((nx : Nat) : Int)), .int (iI (fi)), .int (iI (se)), .int (iI ((le : Nat) : Int)), .ref m7, .int (iI (bp)), .ref m8])), (m1, .inl (cI, 516, .inl (rI (sF cn en ac cu co au er ki bs))))] H := hP
          have hD : va_D A [(hm, .inr (5, [.ref m1, .ref m2, .ref m3, .int (iI ((x1 : Nat) : Int)), .int (iI ((y1 : Nat) : Int)), .ref m4, .int (iI ((cp : Nat) : Int)), .ref m5, .int (iI ((ty : Nat) : Int)), .ref m6, .int (iI ((nx : Nat) : Int)), .int (iI (fi)), .int (iI (se)), .int (iI ((le : Nat) : Int)), .ref m7, .int (iI (bp)), .ref m8])), (m1, .inl (cI, 516, .inl (rI (sF cn en ac cu co au er ki bs))))] := hD
          refine lv_iload_n hx hb dX5_setPrices_54 rfl (lv_at hl 0 rfl) ?_
          refine r_if_eq (tgt := 62) hx hb (⟨by decide, by decide⟩) dX5_setPrices_55 (by decide) (fun c_7 => ?_) (fun c_7 => ?_)
          · skip
            exact absurd c_7 (by decide)
          · skip
            refine r_iconst hx hb dX5_setPrices_58 ?_
            refine lv_goto (tgt := 63) hx hb dX5_setPrices_59 (by decide) ?_
            exact r_iretX hx hb hr hlocks hP hD hS () (congrArg (fun z => some (Value.int (iI z))) (((bI_t (by omega)).symm : 1 = (bI (¬ (pa = x1 ∧ pb = y1)))).symm)) (trivial) rfl dX5_setPrices_63
    · skip
      exfalso; omega

set_option maxHeartbeats 4000000 in
set_option maxRecDepth 100000 in
theorem m_append_bad (l : Launch) (D : va_G) (cI cB cZ cO : ClassId) (hm : Nat) (m1 : Nat) (m2 : Nat) (m3 : Nat) (m4 : Nat) (m5 : Nat) (m6 : Nat) (m7 : Nat) (m8 : Nat) (pa : Nat) (pb : Nat) (cp : Nat) (ty : Nat) (nx : Nat) (fi : Int) (se : Int) (le : Nat) (bp : Int) (cn : Nat) (en : Nat) (ac : Nat) (cu : Nat) (co : Nat → Nat) (au : Nat → Int) (er : Nat → Nat) (ki : Nat → Nat) (bs : Nat → Int) (x : Int) (rx : rg x) (hbad : x < 32 ∨ 126 < x) : Met l yX5_appendCharacter wsX5_appendCharacter ({ frames := 1, cells := 0, slots := 0, locals := 22 }) (va_Pc [.ref hm, .int (iI (x))] (RO D cI cB cZ cO [(hm, .inr (5, [.ref m1, .ref m2, .ref m3, .int (iI ((pa : Nat) : Int)), .int (iI ((pb : Nat) : Int)), .ref m4, .int (iI ((cp : Nat) : Int)), .ref m5, .int (iI ((ty : Nat) : Int)), .ref m6, .int (iI ((nx : Nat) : Int)), .int (iI (fi)), .int (iI (se)), .int (iI ((le : Nat) : Int)), .ref m7, .int (iI (bp)), .ref m8])), (m1, .inl (cI, 516, .inl (rI (sF cn en ac cu co au er ki bs))))])) (QO (-1)) 0 0 (fun _ => False) := by
  refine startO (cc := cX5_appendCharacter) (maxL := 2) (ret := (some .int)) (by decide) rfl (Nat.le_of_ble_eq_true rfl) ?_
  intro p e s m below meth c S hr hlocks hE hP ls hl
  have hx := S.1
  have hb := S.2.1
  have hown := S.2.2.2.1
  have hts := S.2.2.2.2
  have hK := hE.1
  have hl : lv_has ls 2 [(0, .ref hm), (1, .int (iI (x)))] := hl
  refine lv_iload_n hx hb dX5_appendCharacter_0 rfl (lv_at hl 1 rfl) ?_
  refine r_bipush hx hb dX5_appendCharacter_1 (by decide) ?_
  refine r_bipush hx hb dX5_appendCharacter_3 (by decide) ?_
  rw [show (32 : Int) = (32) from by omega]
  rw [show (126 : Int) = (126) from by omega]
  refine callSO (n := 3) (As := [.int (iI (x)), .int (iI (32)), .int (iI (126))]) (rest := []) (wc := []) S (m_in l D cI cB cZ cO x 32 126 (by first | assumption | (omega)) (by first | assumption | (omega)) (by first | assumption | (omega))) gX5_appendCharacter_X5_in rfl ⟨rfl, rfl⟩ (by decide +kernel) ⟨Nat.le_of_ble_eq_true rfl, Nat.le_of_ble_eq_true rfl⟩ hE hP [] rfl rfl hl.1 rfl (Nat.le_of_ble_eq_true rfl) dX5_appendCharacter_5 ⟨Nat.le_of_ble_eq_true rfl, Nat.le_of_ble_eq_true rfl⟩ ?_
  refine r_ifb_ne (tgt := 13) hx hb dX5_appendCharacter_8 (by decide) (fun c_1 => ?_) (fun c_1 => ?_)
  · skip
    exfalso; omega
  · skip
    refine r_iconst hx hb dX5_appendCharacter_11 ?_
    exact r_iretO hx hb hr hlocks (rfl) dX5_appendCharacter_12

theorem kX5_appendCharacter_79 : Cond.fieldLink RX5 79 "PricedUndoModel" "clipped" "I" ∈ wsX5_appendCharacter := by decide +kernel
theorem nX5_appendCharacter_X5 : ∀ w ∈ u_ws RX5 TX5 17, w ∈ wsX5_appendCharacter := by decide +kernel
set_option maxHeartbeats 4000000 in
set_option maxRecDepth 100000 in
theorem m_append_full (l : Launch) (D : va_G) (cI cB cZ cO : ClassId) (hm : Nat) (m1 : Nat) (m2 : Nat) (m3 : Nat) (m4 : Nat) (m5 : Nat) (m6 : Nat) (m7 : Nat) (m8 : Nat) (pa : Nat) (pb : Nat) (cp : Nat) (ty : Nat) (nx : Nat) (fi : Int) (se : Int) (le : Nat) (bp : Int) (cn : Nat) (en : Nat) (ac : Nat) (cu : Nat) (co : Nat → Nat) (au : Nat → Int) (er : Nat → Nat) (ki : Nat → Nat) (bs : Nat → Int) (x : Int) (rx : rg x) (hx : 32 ≤ x ∧ x ≤ 126) (hcp : cp = 60) : Met l yX5_appendCharacter wsX5_appendCharacter ({ frames := 1, cells := 0, slots := 0, locals := 22 }) (va_Pc [.ref hm, .int (iI (x))] (RO D cI cB cZ cO [(hm, .inr (5, [.ref m1, .ref m2, .ref m3, .int (iI ((pa : Nat) : Int)), .int (iI ((pb : Nat) : Int)), .ref m4, .int (iI ((cp : Nat) : Int)), .ref m5, .int (iI ((ty : Nat) : Int)), .ref m6, .int (iI ((nx : Nat) : Int)), .int (iI (fi)), .int (iI (se)), .int (iI ((le : Nat) : Int)), .ref m7, .int (iI (bp)), .ref m8])), (m1, .inl (cI, 516, .inl (rI (sF cn en ac cu co au er ki bs))))])) (QO (-3)) 0 0 (fun _ => False) := by
  refine startO (cc := cX5_appendCharacter) (maxL := 2) (ret := (some .int)) (by decide) rfl (Nat.le_of_ble_eq_true rfl) ?_
  intro p e s m below meth c S hr hlocks hE hP ls hl
  have hx := S.1
  have hb := S.2.1
  have hown := S.2.2.2.1
  have hts := S.2.2.2.2
  have hK := hE.1
  have hl : lv_has ls 2 [(0, .ref hm), (1, .int (iI (x)))] := hl
  refine lv_iload_n hx hb dX5_appendCharacter_0 rfl (lv_at hl 1 rfl) ?_
  refine r_bipush hx hb dX5_appendCharacter_1 (by decide) ?_
  refine r_bipush hx hb dX5_appendCharacter_3 (by decide) ?_
  rw [show (32 : Int) = (32) from by omega]
  rw [show (126 : Int) = (126) from by omega]
  refine callSO (n := 3) (As := [.int (iI (x)), .int (iI (32)), .int (iI (126))]) (rest := []) (wc := []) S (m_in l D cI cB cZ cO x 32 126 (by first | assumption | (omega)) (by first | assumption | (omega)) (by first | assumption | (omega))) gX5_appendCharacter_X5_in rfl ⟨rfl, rfl⟩ (by decide +kernel) ⟨Nat.le_of_ble_eq_true rfl, Nat.le_of_ble_eq_true rfl⟩ hE hP [] rfl rfl hl.1 rfl (Nat.le_of_ble_eq_true rfl) dX5_appendCharacter_5 ⟨Nat.le_of_ble_eq_true rfl, Nat.le_of_ble_eq_true rfl⟩ ?_
  refine r_ifb_ne (tgt := 13) hx hb dX5_appendCharacter_8 (by decide) (fun c_1 => ?_) (fun c_1 => ?_)
  · skip
    refine lv_aload_n hx hb dX5_appendCharacter_13 rfl (lv_at hl 0 rfl) ?_
    refine va_get (D := D) (ci := 5) (v := .int (iI ((cp : Nat) : Int))) (C := RX5) (T := TX5) (N := 17) hx hb hts nX5_appendCharacter_X5 hown hK hP 0 rfl rfl 6 (by decide) (hts _ kX5_appendCharacter_79) (fun _ h9 => h9) rfl dX5_appendCharacter_14 ?_
    refine r_bipush hx hb dX5_appendCharacter_17 (by decide) ?_
    refine r_icmp_ne (tgt := 25) hx hb (by omega) (⟨by decide, by decide⟩) dX5_appendCharacter_19 (by decide) (fun c_2 => ?_) (fun c_2 => ?_)
    · skip
      exfalso; omega
    · skip
      refine r_bipush hx hb dX5_appendCharacter_22 (by decide) ?_
      exact r_iretO hx hb hr hlocks (rfl) dX5_appendCharacter_24
  · skip
    exfalso; omega

theorem kX5_appendCharacter_27 : Cond.fieldLink RX5 27 "PricedUndoModel" "clip" "[B" ∈ wsX5_appendCharacter := by decide +kernel
set_option maxHeartbeats 4000000 in
set_option maxRecDepth 100000 in
theorem m_append (l : Launch) (D : va_G) (cI cB cZ cO : ClassId) (sz : Nat) (hm : Nat) (m1 : Nat) (m2 : Nat) (m3 : Nat) (m4 : Nat) (m5 : Nat) (m6 : Nat) (m7 : Nat) (m8 : Nat) (pa : Nat) (pb : Nat) (cp : Nat) (ty : Nat) (nx : Nat) (fi : Int) (se : Int) (le : Nat) (bp : Int) (cn : Nat) (en : Nat) (ac : Nat) (cu : Nat) (co : Nat → Nat) (au : Nat → Int) (er : Nat → Nat) (ki : Nat → Nat) (bs : Nat → Int) (cl : Nat → Nat) (x1 : Nat) (hx : 32 ≤ x1 ∧ x1 ≤ 126) (hcp : cp < 60) : Met l yX5_appendCharacter wsX5_appendCharacter ({ frames := 1, cells := 0, slots := 0, locals := 22 }) (va_Pc [.ref hm, .int (iI ((x1 : Nat) : Int))] (RW D cI cB cZ cO sz [(hm, .inr (5, [.ref m1, .ref m2, .ref m3, .int (iI ((pa : Nat) : Int)), .int (iI ((pb : Nat) : Int)), .ref m4, .int (iI ((cp : Nat) : Int)), .ref m5, .int (iI ((ty : Nat) : Int)), .ref m6, .int (iI ((nx : Nat) : Int)), .int (iI (fi)), .int (iI (se)), .int (iI ((le : Nat) : Int)), .ref m7, .int (iI (bp)), .ref m8])), (m1, .inl (cI, 516, .inl (rI (sF cn en ac cu co au er ki bs)))), (m4, .inl (cB, 60, .inl (rN (cl))))])) (QX D (S := Unit) (fun u => some (.int (iI ((cp + 1 : Nat) : Int)))) (fun u => True) (fun u => [(hm, .inr (5, [.ref m1, .ref m2, .ref m3, .int (iI ((pa : Nat) : Int)), .int (iI ((pb : Nat) : Int)), .ref m4, .int (iI ((cp + 1 : Nat) : Int)), .ref m5, .int (iI ((ty : Nat) : Int)), .ref m6, .int (iI ((nx : Nat) : Int)), .int (iI (fi)), .int (iI (se)), .int (iI ((le : Nat) : Int)), .ref m7, .int (iI (bp)), .ref m8])), (m1, .inl (cI, 516, .inl (rI (sF cn en ac cu co au er ki bs)))), (m4, .inl (cB, 60, .inl (rN (up cl cp (x1)))))]) (va_A [(hm, .inr (5, [.ref m1, .ref m2, .ref m3, .int (iI ((pa : Nat) : Int)), .int (iI ((pb : Nat) : Int)), .ref m4, .int (iI ((cp : Nat) : Int)), .ref m5, .int (iI ((ty : Nat) : Int)), .ref m6, .int (iI ((nx : Nat) : Int)), .int (iI (fi)), .int (iI (se)), .int (iI ((le : Nat) : Int)), .ref m7, .int (iI (bp)), .ref m8])), (m1, .inl (cI, 516, .inl (rI (sF cn en ac cu co au er ki bs)))), (m4, .inl (cB, 60, .inl (rN (cl))))] sz)) 0 0 (va_A [(hm, .inr (5, [.ref m1, .ref m2, .ref m3, .int (iI ((pa : Nat) : Int)), .int (iI ((pb : Nat) : Int)), .ref m4, .int (iI ((cp : Nat) : Int)), .ref m5, .int (iI ((ty : Nat) : Int)), .ref m6, .int (iI ((nx : Nat) : Int)), .int (iI (fi)), .int (iI (se)), .int (iI ((le : Nat) : Int)), .ref m7, .int (iI (bp)), .ref m8])), (m1, .inl (cI, 516, .inl (rI (sF cn en ac cu co au er ki bs)))), (m4, .inl (cB, 60, .inl (rN (cl))))] sz) := by
  refine startW (cc := cX5_appendCharacter) (maxL := 2) (ret := (some .int)) (by decide) rfl (Nat.le_of_ble_eq_true rfl) ?_
  intro p e s m below meth c S hr hlocks hE hP A hD hA hS ls hl
  have hx := S.1
  have hb := S.2.1
  have hown := S.2.2.2.1
  have hts := S.2.2.2.2
  have hK := hE.1
  have hl : lv_has ls 2 [(0, .ref hm), (1, .int (iI ((x1 : Nat) : Int)))] := hl
  refine lv_iload_n hx hb dX5_appendCharacter_0 rfl (lv_at hl 1 rfl) ?_
  refine r_bipush hx hb dX5_appendCharacter_1 (by decide) ?_
  refine r_bipush hx hb dX5_appendCharacter_3 (by decide) ?_
  rw [show (32 : Int) = (32) from by omega]
  rw [show (126 : Int) = (126) from by omega]
  refine callSO (n := 3) (As := [.int (iI ((x1 : Nat) : Int)), .int (iI (32)), .int (iI (126))]) (rest := []) (wc := []) S (m_in l D cI cB cZ cO (((x1 : Nat) : Int)) 32 126 (by first | assumption | (omega)) (by first | assumption | (omega)) (by first | assumption | (omega))) gX5_appendCharacter_X5_in rfl ⟨rfl, rfl⟩ (by decide +kernel) ⟨Nat.le_of_ble_eq_true rfl, Nat.le_of_ble_eq_true rfl⟩ hE hP [] rfl rfl hl.1 rfl (Nat.le_of_ble_eq_true rfl) dX5_appendCharacter_5 ⟨Nat.le_of_ble_eq_true rfl, Nat.le_of_ble_eq_true rfl⟩ ?_
  refine r_ifb_ne (tgt := 13) hx hb dX5_appendCharacter_8 (by decide) (fun c_1 => ?_) (fun c_1 => ?_)
  · skip
    refine lv_aload_n hx hb dX5_appendCharacter_13 rfl (lv_at hl 0 rfl) ?_
    refine va_get (D := D) (ci := 5) (v := .int (iI ((cp : Nat) : Int))) (C := RX5) (T := TX5) (N := 17) hx hb hts nX5_appendCharacter_X5 hown hK hP 0 rfl rfl 6 (by decide) (hts _ kX5_appendCharacter_79) (fun _ h9 => h9) rfl dX5_appendCharacter_14 ?_
    refine r_bipush hx hb dX5_appendCharacter_17 (by decide) ?_
    refine r_icmp_ne (tgt := 25) hx hb (by omega) (⟨by decide, by decide⟩) dX5_appendCharacter_19 (by decide) (fun c_2 => ?_) (fun c_2 => ?_)
    · skip
      refine lv_aload_n hx hb dX5_appendCharacter_25 rfl (lv_at hl 0 rfl) ?_
      refine va_get (D := D) (ci := 5) (v := .ref m4) (C := RX5) (T := TX5) (N := 17) hx hb hts nX5_appendCharacter_X5 hown hK hP 0 rfl rfl 5 (by decide) (hts _ kX5_appendCharacter_27) (fun _ h9 => h9) rfl dX5_appendCharacter_26 ?_
      refine lv_aload_n hx hb dX5_appendCharacter_29 rfl (lv_at hl 0 rfl) ?_
      refine va_get (D := D) (ci := 5) (v := .int (iI ((cp : Nat) : Int))) (C := RX5) (T := TX5) (N := 17) hx hb hts nX5_appendCharacter_X5 hown hK hP 0 rfl rfl 6 (by decide) (hts _ kX5_appendCharacter_79) (fun _ h9 => h9) rfl dX5_appendCharacter_30 ?_
      refine lv_iload_n hx hb dX5_appendCharacter_33 rfl (lv_at hl 1 rfl) ?_
      refine lv_i2b (v := iI ((x1 : Nat) : Int)) hx hb dX5_appendCharacter_34 (nar_b (by omega)) ?_
      refine r_bastN (v := (x1)) hx hb hK hP hD hS 2 1 rfl rfl (cp) (rfl) (by omega) (by decide) (nar_b (by omega)) dX5_appendCharacter_35 (fun H locs hP hD hS => ?_)
      have hP : va_P D vwCl [(hm, .inr (5, [.ref m1, .ref m2, .ref m3, .int (iI ((pa : Nat) : Int)), .int (iI ((pb : Nat) : Int)), .ref m4, .int (iI ((cp : Nat) : Int)), .ref m5, .int (iI ((ty : Nat) : Int)), .ref m6, .int (iI ((nx : Nat) : Int)), .int (iI (fi)), .int (iI (se)), .int (iI ((le : Nat) : Int)), .ref m7, .int (iI (bp)), .ref m8])), (m1, .inl (cI, 516, .inl (rI (sF cn en ac cu co au er ki bs)))), (m4, .inl (cB, 60, .inl (rN (up cl cp (x1)))))] H := hP
      have hD : va_D A [(hm, .inr (5, [.ref m1, .ref m2, .ref m3, .int (iI ((pa : Nat) : Int)), .int (iI ((pb : Nat) : Int)), .ref m4, .int (iI ((cp : Nat) : Int)), .ref m5, .int (iI ((ty : Nat) : Int)), .ref m6, .int (iI ((nx : Nat) : Int)), .int (iI (fi)), .int (iI (se)), .int (iI ((le : Nat) : Int)), .ref m7, .int (iI (bp)), .ref m8])), (m1, .inl (cI, 516, .inl (rI (sF cn en ac cu co au er ki bs)))), (m4, .inl (cB, 60, .inl (rN (up cl cp (x1)))))] := hD
      refine lv_aload_n hx hb dX5_appendCharacter_36 rfl (lv_at hl 0 rfl) ?_
      refine lv_dup hx hb dX5_appendCharacter_37 rfl ?_
      refine va_get (D := D) (ci := 5) (v := .int (iI ((cp : Nat) : Int))) (C := RX5) (T := TX5) (N := 17) hx hb hts nX5_appendCharacter_X5 hown hK hP 0 rfl rfl 6 (by decide) (hts _ kX5_appendCharacter_79) (fun _ h9 => h9) rfl dX5_appendCharacter_38 ?_
      refine r_iconst hx hb dX5_appendCharacter_41 ?_
      refine r_iadd (v := ((cp + 1 : Nat) : Int)) hx hb (rfl) dX5_appendCharacter_42 ?_
      refine va_put (D := D) (ci := 5) (v := .int (iI ((cp + 1 : Nat) : Int))) (ty := .int) (C := RX5) (T := TX5) (N := 17) hx hb hts nX5_appendCharacter_X5 tyX5 tyX5_ok nmX5 hown hK hP hD hS 0 rfl rfl 6 (by decide) (hts _ kX5_appendCharacter_79) (fun _ h9 => h9) rfl (by decide +kernel) rfl rfl (Nat.le_of_ble_eq_true rfl) dX5_appendCharacter_43 (fun H locs hP hD hS => ?_)
      have hP : va_P D vwCl [(hm, .inr (5, [.ref m1, .ref m2, .ref m3, .int (iI ((pa : Nat) : Int)), .int (iI ((pb : Nat) : Int)), .ref m4, .int (iI ((cp + 1 : Nat) : Int)), .ref m5, .int (iI ((ty : Nat) : Int)), .ref m6, .int (iI ((nx : Nat) : Int)), .int (iI (fi)), .int (iI (se)), .int (iI ((le : Nat) : Int)), .ref m7, .int (iI (bp)), .ref m8])), (m1, .inl (cI, 516, .inl (rI (sF cn en ac cu co au er ki bs)))), (m4, .inl (cB, 60, .inl (rN (up cl cp (x1)))))] H := hP
      have hD : va_D A [(hm, .inr (5, [.ref m1, .ref m2, .ref m3, .int (iI ((pa : Nat) : Int)), .int (iI ((pb : Nat) : Int)), .ref m4, .int (iI ((cp + 1 : Nat) : Int)), .ref m5, .int (iI ((ty : Nat) : Int)), .ref m6, .int (iI ((nx : Nat) : Int)), .int (iI (fi)), .int (iI (se)), .int (iI ((le : Nat) : Int)), .ref m7, .int (iI (bp)), .ref m8])), (m1, .inl (cI, 516, .inl (rI (sF cn en ac cu co au er ki bs)))), (m4, .inl (cB, 60, .inl (rN (up cl cp (x1)))))] := hD
      refine lv_aload_n hx hb dX5_appendCharacter_46 rfl (lv_at hl 0 rfl) ?_
      refine va_get (D := D) (ci := 5) (v := .int (iI ((cp + 1 : Nat) : Int))) (C := RX5) (T := TX5) (N := 17) hx hb hts nX5_appendCharacter_X5 hown hK hP 0 rfl rfl 6 (by decide) (hts _ kX5_appendCharacter_79) (fun _ h9 => h9) rfl dX5_appendCharacter_47 ?_
      exact r_iretX hx hb hr hlocks hP hD hS () (rfl) (trivial) rfl dX5_appendCharacter_50
    · skip
      exfalso; omega
  · skip
    exfalso; omega

theorem kX5_clearClip_79 : Cond.fieldLink RX5 79 "PricedUndoModel" "clipped" "I" ∈ wsX5_clearClip := by decide +kernel
theorem nX5_clearClip_X5 : ∀ w ∈ u_ws RX5 TX5 17, w ∈ wsX5_clearClip := by decide +kernel
set_option maxHeartbeats 4000000 in
set_option maxRecDepth 100000 in
theorem m_clearClip (l : Launch) (D : va_G) (cI cB cZ cO : ClassId) (sz : Nat) (hm : Nat) (m1 : Nat) (m2 : Nat) (m3 : Nat) (m4 : Nat) (m5 : Nat) (m6 : Nat) (m7 : Nat) (m8 : Nat) (pa : Nat) (pb : Nat) (cp : Nat) (ty : Nat) (nx : Nat) (fi : Int) (se : Int) (le : Nat) (bp : Int) (cn : Nat) (en : Nat) (ac : Nat) (cu : Nat) (co : Nat → Nat) (au : Nat → Int) (er : Nat → Nat) (ki : Nat → Nat) (bs : Nat → Int)  : Met l yX5_clearClip wsX5_clearClip ({ frames := 0, cells := 0, slots := 0, locals := 0 }) (va_Pc [.ref hm] (RW D cI cB cZ cO sz [(hm, .inr (5, [.ref m1, .ref m2, .ref m3, .int (iI ((pa : Nat) : Int)), .int (iI ((pb : Nat) : Int)), .ref m4, .int (iI ((cp : Nat) : Int)), .ref m5, .int (iI ((ty : Nat) : Int)), .ref m6, .int (iI ((nx : Nat) : Int)), .int (iI (fi)), .int (iI (se)), .int (iI ((le : Nat) : Int)), .ref m7, .int (iI (bp)), .ref m8])), (m1, .inl (cI, 516, .inl (rI (sF cn en ac cu co au er ki bs))))])) (QX D (S := Unit) (fun u => some (.int (iI ((cp : Nat) : Int)))) (fun u => True) (fun u => [(hm, .inr (5, [.ref m1, .ref m2, .ref m3, .int (iI ((pa : Nat) : Int)), .int (iI ((pb : Nat) : Int)), .ref m4, .int (iI 0), .ref m5, .int (iI ((ty : Nat) : Int)), .ref m6, .int (iI ((nx : Nat) : Int)), .int (iI (fi)), .int (iI (se)), .int (iI ((le : Nat) : Int)), .ref m7, .int (iI (bp)), .ref m8])), (m1, .inl (cI, 516, .inl (rI (sF cn en ac cu co au er ki bs))))]) (va_A [(hm, .inr (5, [.ref m1, .ref m2, .ref m3, .int (iI ((pa : Nat) : Int)), .int (iI ((pb : Nat) : Int)), .ref m4, .int (iI ((cp : Nat) : Int)), .ref m5, .int (iI ((ty : Nat) : Int)), .ref m6, .int (iI ((nx : Nat) : Int)), .int (iI (fi)), .int (iI (se)), .int (iI ((le : Nat) : Int)), .ref m7, .int (iI (bp)), .ref m8])), (m1, .inl (cI, 516, .inl (rI (sF cn en ac cu co au er ki bs))))] sz)) 0 0 (va_A [(hm, .inr (5, [.ref m1, .ref m2, .ref m3, .int (iI ((pa : Nat) : Int)), .int (iI ((pb : Nat) : Int)), .ref m4, .int (iI ((cp : Nat) : Int)), .ref m5, .int (iI ((ty : Nat) : Int)), .ref m6, .int (iI ((nx : Nat) : Int)), .int (iI (fi)), .int (iI (se)), .int (iI ((le : Nat) : Int)), .ref m7, .int (iI (bp)), .ref m8])), (m1, .inl (cI, 516, .inl (rI (sF cn en ac cu co au er ki bs))))] sz) := by
  refine startW (cc := cX5_clearClip) (maxL := 2) (ret := (some .int)) (by decide) rfl (Nat.le_of_ble_eq_true rfl) ?_
  intro p e s m below meth c S hr hlocks hE hP A hD hA hS ls hl
  have hx := S.1
  have hb := S.2.1
  have hown := S.2.2.2.1
  have hts := S.2.2.2.2
  have hK := hE.1
  have hl : lv_has ls 2 [(0, .ref hm)] := hl
  refine lv_aload_n hx hb dX5_clearClip_0 rfl (lv_at hl 0 rfl) ?_
  refine va_get (D := D) (ci := 5) (v := .int (iI ((cp : Nat) : Int))) (C := RX5) (T := TX5) (N := 17) hx hb hts nX5_clearClip_X5 hown hK hP 0 rfl rfl 6 (by decide) (hts _ kX5_clearClip_79) (fun _ h9 => h9) rfl dX5_clearClip_1 ?_
  refine lv_istore_n (lv' := [(1, .int (iI ((cp : Nat) : Int))), (0, .ref hm)]) hx hb dX5_clearClip_4 rfl hl (by decide) rfl (fun ls hl => ?_)
  refine lv_aload_n hx hb dX5_clearClip_5 rfl (lv_at hl 1 rfl) ?_
  refine r_iconst hx hb dX5_clearClip_6 ?_
  refine va_put (D := D) (ci := 5) (v := .int (iI 0)) (ty := .int) (C := RX5) (T := TX5) (N := 17) hx hb hts nX5_clearClip_X5 tyX5 tyX5_ok nmX5 hown hK hP hD hS 0 rfl rfl 6 (by decide) (hts _ kX5_clearClip_79) (fun _ h9 => h9) rfl (by decide +kernel) rfl rfl (Nat.le_of_ble_eq_true rfl) dX5_clearClip_7 (fun H locs hP hD hS => ?_)
  have hP : va_P D vwCl [(hm, .inr (5, [.ref m1, .ref m2, .ref m3, .int (iI ((pa : Nat) : Int)), .int (iI ((pb : Nat) : Int)), .ref m4, .int (iI 0), .ref m5, .int (iI ((ty : Nat) : Int)), .ref m6, .int (iI ((nx : Nat) : Int)), .int (iI (fi)), .int (iI (se)), .int (iI ((le : Nat) : Int)), .ref m7, .int (iI (bp)), .ref m8])), (m1, .inl (cI, 516, .inl (rI (sF cn en ac cu co au er ki bs))))] H := hP
  have hD : va_D A [(hm, .inr (5, [.ref m1, .ref m2, .ref m3, .int (iI ((pa : Nat) : Int)), .int (iI ((pb : Nat) : Int)), .ref m4, .int (iI 0), .ref m5, .int (iI ((ty : Nat) : Int)), .ref m6, .int (iI ((nx : Nat) : Int)), .int (iI (fi)), .int (iI (se)), .int (iI ((le : Nat) : Int)), .ref m7, .int (iI (bp)), .ref m8])), (m1, .inl (cI, 516, .inl (rI (sF cn en ac cu co au er ki bs))))] := hD
  refine lv_iload_n hx hb dX5_clearClip_10 rfl (lv_at hl 0 rfl) ?_
  exact r_iretX hx hb hr hlocks hP hD hS () (rfl) (trivial) rfl dX5_clearClip_11

set_option maxHeartbeats 4000000 in
set_option maxRecDepth 100000 in
theorem m_char_bad (l : Launch) (D : va_G) (cI cB cZ cO : ClassId) (hm : Nat) (m1 : Nat) (m2 : Nat) (m3 : Nat) (m4 : Nat) (m5 : Nat) (m6 : Nat) (m7 : Nat) (m8 : Nat) (pa : Nat) (pb : Nat) (cp : Nat) (ty : Nat) (nx : Nat) (fi : Int) (se : Int) (le : Nat) (bp : Int) (cn : Nat) (en : Nat) (ac : Nat) (cu : Nat) (co : Nat → Nat) (au : Nat → Int) (er : Nat → Nat) (ki : Nat → Nat) (bs : Nat → Int) (x : Int) (rx : rg x) (hbad : x < 0) : Met l yX5_character wsX5_character ({ frames := 0, cells := 0, slots := 0, locals := 0 }) (va_Pc [.ref hm, .int (iI (x))] (RO D cI cB cZ cO [(hm, .inr (5, [.ref m1, .ref m2, .ref m3, .int (iI ((pa : Nat) : Int)), .int (iI ((pb : Nat) : Int)), .ref m4, .int (iI ((cp : Nat) : Int)), .ref m5, .int (iI ((ty : Nat) : Int)), .ref m6, .int (iI ((nx : Nat) : Int)), .int (iI (fi)), .int (iI (se)), .int (iI ((le : Nat) : Int)), .ref m7, .int (iI (bp)), .ref m8])), (m1, .inl (cI, 516, .inl (rI (sF cn en ac cu co au er ki bs))))])) (QO (-1)) 0 0 (fun _ => False) := by
  refine startO (cc := cX5_character) (maxL := 3) (ret := (some .int)) (by decide) rfl (Nat.le_of_ble_eq_true rfl) ?_
  intro p e s m below meth c S hr hlocks hE hP ls hl
  have hx := S.1
  have hb := S.2.1
  have hown := S.2.2.2.1
  have hts := S.2.2.2.2
  have hK := hE.1
  have hl : lv_has ls 3 [(0, .ref hm), (1, .int (iI (x)))] := hl
  refine lv_iload_n hx hb dX5_character_0 rfl (lv_at hl 1 rfl) ?_
  refine r_if_ge (tgt := 6) hx hb (by omega) dX5_character_1 (by decide) (fun c_1 => ?_) (fun c_1 => ?_)
  · skip
    exfalso; omega
  · skip
    refine r_iconst hx hb dX5_character_4 ?_
    exact r_iretO hx hb hr hlocks (rfl) dX5_character_5

set_option maxHeartbeats 4000000 in
set_option maxRecDepth 100000 in
theorem m_char_none (l : Launch) (D : va_G) (cI cB cZ cO : ClassId) (hm : Nat) (m1 : Nat) (m2 : Nat) (m3 : Nat) (m4 : Nat) (m5 : Nat) (m6 : Nat) (m7 : Nat) (m8 : Nat) (pa : Nat) (pb : Nat) (cp : Nat) (ty : Nat) (nx : Nat) (fi : Int) (se : Int) (le : Nat) (bp : Int) (cn : Nat) (en : Nat) (ac : Nat) (cu : Nat) (co : Nat → Nat) (au : Nat → Int) (er : Nat → Nat) (ki : Nat → Nat) (bs : Nat → Int) (j : Nat) (hcn : cn ≤ 160) (hac : ac < 65536) (hau : ∀ k, -1 ≤ au k ∧ au k < 16) (her : ∀ k, er k < 65536) (hj : j < 2147483648) (hno : ¬ j < cnt (visb (omF au) er ac) cn) : Met l yX5_character wsX5_character ({ frames := 2, cells := 0, slots := 0, locals := 46 }) (va_Pc [.ref hm, .int (iI ((j : Nat) : Int))] (RO D cI cB cZ cO [(hm, .inr (5, [.ref m1, .ref m2, .ref m3, .int (iI ((pa : Nat) : Int)), .int (iI ((pb : Nat) : Int)), .ref m4, .int (iI ((cp : Nat) : Int)), .ref m5, .int (iI ((ty : Nat) : Int)), .ref m6, .int (iI ((nx : Nat) : Int)), .int (iI (fi)), .int (iI (se)), .int (iI ((le : Nat) : Int)), .ref m7, .int (iI (bp)), .ref m8])), (m1, .inl (cI, 516, .inl (rI (sF cn en ac cu co au er ki bs))))])) (QO (-9)) 0 0 (fun _ => False) := by
  refine startO (cc := cX5_character) (maxL := 3) (ret := (some .int)) (by decide) rfl (Nat.le_of_ble_eq_true rfl) ?_
  intro p e s m below meth c S hr hlocks hE hP ls hl
  have hx := S.1
  have hb := S.2.1
  have hown := S.2.2.2.1
  have hts := S.2.2.2.2
  have hK := hE.1
  have hl : lv_has ls 3 [(0, .ref hm), (1, .int (iI ((j : Nat) : Int)))] := hl
  refine lv_iload_n hx hb dX5_character_0 rfl (lv_at hl 1 rfl) ?_
  refine r_if_ge (tgt := 6) hx hb (by omega) dX5_character_1 (by decide) (fun c_1 => ?_) (fun c_1 => ?_)
  · skip
    refine lv_aload_n hx hb dX5_character_6 rfl (lv_at hl 0 rfl) ?_
    refine lv_iload_n hx hb dX5_character_7 rfl (lv_at hl 1 rfl) ?_
    refine callVO (n := 1) (As := [.int (iI ((j : Nat) : Int))]) (rest := []) (wc := [(hm, .inr (5, [.ref m1, .ref m2, .ref m3, .int (iI ((pa : Nat) : Int)), .int (iI ((pb : Nat) : Int)), .ref m4, .int (iI ((cp : Nat) : Int)), .ref m5, .int (iI ((ty : Nat) : Int)), .ref m6, .int (iI ((nx : Nat) : Int)), .int (iI (fi)), .int (iI (se)), .int (iI ((le : Nat) : Int)), .ref m7, .int (iI (bp)), .ref m8])), (m1, .inl (cI, 516, .inl (rI (sF cn en ac cu co au er ki bs))))]) S (m_at l D cI cB cZ cO hm m1 m2 m3 m4 m5 m6 m7 m8 pa pb cp ty nx fi se le bp cn en ac cu co au er ki bs j (by first | assumption | (omega)) (by first | assumption | (omega)) (by first | assumption | (omega)) (by first | assumption | (omega)) (by first | assumption | (omega))) gX5_character_X5_at rfl ⟨rfl, rfl⟩ (by decide +kernel) ⟨Nat.le_of_ble_eq_true rfl, Nat.le_of_ble_eq_true rfl⟩ hE hP [0, 1] rfl 5 0 rfl rfl rfl hl.1 rfl (Nat.le_of_ble_eq_true rfl) dX5_character_8 ⟨Nat.le_of_ble_eq_true rfl, Nat.le_of_ble_eq_true rfl⟩ ?_
    rw [atv_n hno]
    refine lv_istore_n (lv' := [(2, .int (iI (-9))), (0, .ref hm), (1, .int (iI ((j : Nat) : Int)))]) hx hb dX5_character_11 rfl hl (by decide) rfl (fun ls hl => ?_)
    refine lv_iload_n hx hb dX5_character_12 rfl (lv_at hl 0 rfl) ?_
    refine r_bipush hx hb dX5_character_13 (by decide) ?_
    refine r_icmp_ne (tgt := 23) hx hb (⟨by decide, by decide⟩) (⟨by decide, by decide⟩) dX5_character_15 (by decide) (fun c_2 => ?_) (fun c_2 => ?_)
    · skip
      exact absurd c_2 (by decide)
    · skip
      refine r_bipush hx hb dX5_character_18 (by decide) ?_
      refine lv_goto (tgt := 31) hx hb dX5_character_20 (by decide) ?_
      exact r_iretO hx hb hr hlocks (rfl) dX5_character_31
  · skip
    exfalso; omega

theorem kX5_character_7 : Cond.fieldLink RX5 7 "PricedUndoModel" "s" "[I" ∈ wsX5_character := by decide +kernel
theorem nX5_character_X5 : ∀ w ∈ u_ws RX5 TX5 17, w ∈ wsX5_character := by decide +kernel
set_option maxHeartbeats 4000000 in
set_option maxRecDepth 100000 in
theorem m_char (l : Launch) (D : va_G) (cI cB cZ cO : ClassId) (hm : Nat) (m1 : Nat) (m2 : Nat) (m3 : Nat) (m4 : Nat) (m5 : Nat) (m6 : Nat) (m7 : Nat) (m8 : Nat) (pa : Nat) (pb : Nat) (cp : Nat) (ty : Nat) (nx : Nat) (fi : Int) (se : Int) (le : Nat) (bp : Int) (cn : Nat) (en : Nat) (ac : Nat) (cu : Nat) (co : Nat → Nat) (au : Nat → Int) (er : Nat → Nat) (ki : Nat → Nat) (bs : Nat → Int) (j : Nat) (an : Nat) (hcn : cn ≤ 160) (hac : ac < 65536) (hau : ∀ k, -1 ≤ au k ∧ au k < 16) (her : ∀ k, er k < 65536) (hj : j < 2147483648) (han : atv (visb (omF au) er ac) cn j = (an : Int)) (hanl : an < cn) : Met l yX5_character wsX5_character ({ frames := 2, cells := 0, slots := 0, locals := 46 }) (va_Pc [.ref hm, .int (iI ((j : Nat) : Int))] (RO D cI cB cZ cO [(hm, .inr (5, [.ref m1, .ref m2, .ref m3, .int (iI ((pa : Nat) : Int)), .int (iI ((pb : Nat) : Int)), .ref m4, .int (iI ((cp : Nat) : Int)), .ref m5, .int (iI ((ty : Nat) : Int)), .ref m6, .int (iI ((nx : Nat) : Int)), .int (iI (fi)), .int (iI (se)), .int (iI ((le : Nat) : Int)), .ref m7, .int (iI (bp)), .ref m8])), (m1, .inl (cI, 516, .inl (rI (sF cn en ac cu co au er ki bs))))])) (QO ((co an : Nat) : Int)) 0 0 (fun _ => False) := by
  refine startO (cc := cX5_character) (maxL := 3) (ret := (some .int)) (by decide) rfl (Nat.le_of_ble_eq_true rfl) ?_
  intro p e s m below meth c S hr hlocks hE hP ls hl
  have hx := S.1
  have hb := S.2.1
  have hown := S.2.2.2.1
  have hts := S.2.2.2.2
  have hK := hE.1
  have hl : lv_has ls 3 [(0, .ref hm), (1, .int (iI ((j : Nat) : Int)))] := hl
  refine lv_iload_n hx hb dX5_character_0 rfl (lv_at hl 1 rfl) ?_
  refine r_if_ge (tgt := 6) hx hb (by omega) dX5_character_1 (by decide) (fun c_1 => ?_) (fun c_1 => ?_)
  · skip
    refine lv_aload_n hx hb dX5_character_6 rfl (lv_at hl 0 rfl) ?_
    refine lv_iload_n hx hb dX5_character_7 rfl (lv_at hl 1 rfl) ?_
    refine callVO (n := 1) (As := [.int (iI ((j : Nat) : Int))]) (rest := []) (wc := [(hm, .inr (5, [.ref m1, .ref m2, .ref m3, .int (iI ((pa : Nat) : Int)), .int (iI ((pb : Nat) : Int)), .ref m4, .int (iI ((cp : Nat) : Int)), .ref m5, .int (iI ((ty : Nat) : Int)), .ref m6, .int (iI ((nx : Nat) : Int)), .int (iI (fi)), .int (iI (se)), .int (iI ((le : Nat) : Int)), .ref m7, .int (iI (bp)), .ref m8])), (m1, .inl (cI, 516, .inl (rI (sF cn en ac cu co au er ki bs))))]) S (m_at l D cI cB cZ cO hm m1 m2 m3 m4 m5 m6 m7 m8 pa pb cp ty nx fi se le bp cn en ac cu co au er ki bs j (by first | assumption | (omega)) (by first | assumption | (omega)) (by first | assumption | (omega)) (by first | assumption | (omega)) (by first | assumption | (omega))) gX5_character_X5_at rfl ⟨rfl, rfl⟩ (by decide +kernel) ⟨Nat.le_of_ble_eq_true rfl, Nat.le_of_ble_eq_true rfl⟩ hE hP [0, 1] rfl 5 0 rfl rfl rfl hl.1 rfl (Nat.le_of_ble_eq_true rfl) dX5_character_8 ⟨Nat.le_of_ble_eq_true rfl, Nat.le_of_ble_eq_true rfl⟩ ?_
    rw [han]
    refine lv_istore_n (lv' := [(2, .int (iI ((an : Nat) : Int))), (0, .ref hm), (1, .int (iI ((j : Nat) : Int)))]) hx hb dX5_character_11 rfl hl (by decide) rfl (fun ls hl => ?_)
    refine lv_iload_n hx hb dX5_character_12 rfl (lv_at hl 0 rfl) ?_
    refine r_bipush hx hb dX5_character_13 (by decide) ?_
    refine r_icmp_ne (tgt := 23) hx hb (by omega) (⟨by decide, by decide⟩) dX5_character_15 (by decide) (fun c_2 => ?_) (fun c_2 => ?_)
    · skip
      refine lv_aload_n hx hb dX5_character_23 rfl (lv_at hl 1 rfl) ?_
      refine va_get (D := D) (ci := 5) (v := .ref m1) (C := RX5) (T := TX5) (N := 17) hx hb hts nX5_character_X5 hown hK hP 0 rfl rfl 0 (by decide) (hts _ kX5_character_7) (fun _ h9 => h9) rfl dX5_character_24 ?_
      refine r_iconst hx hb dX5_character_27 ?_
      refine lv_iload_n hx hb dX5_character_28 rfl (lv_at hl 0 rfl) ?_
      refine r_iadd (v := ((4 + an : Nat) : Int)) hx hb (rfl) dX5_character_29 ?_
      refine r_ialdV (v := ((co an : Nat) : Int)) hx hb hK hP 1 0 rfl rfl (4 + an) (rfl) (by omega) (by decide) (sF_co (by omega)) dX5_character_30 ?_
      exact r_iretO hx hb hr hlocks (rfl) dX5_character_31
    · skip
      exfalso; omega
  · skip
    exfalso; omega

set_option maxHeartbeats 4000000 in
set_option maxRecDepth 100000 in
theorem m_author_bad (l : Launch) (D : va_G) (cI cB cZ cO : ClassId) (hm : Nat) (m1 : Nat) (m2 : Nat) (m3 : Nat) (m4 : Nat) (m5 : Nat) (m6 : Nat) (m7 : Nat) (m8 : Nat) (pa : Nat) (pb : Nat) (cp : Nat) (ty : Nat) (nx : Nat) (fi : Int) (se : Int) (le : Nat) (bp : Int) (cn : Nat) (en : Nat) (ac : Nat) (cu : Nat) (co : Nat → Nat) (au : Nat → Int) (er : Nat → Nat) (ki : Nat → Nat) (bs : Nat → Int) (x : Int) (hcn : cn ≤ 160) (hac : ac < 65536) (hau : ∀ k, -1 ≤ au k ∧ au k < 16) (her : ∀ k, er k < 65536) (rx : rg x) (hbad : ¬ (0 ≤ x ∧ x < ((cnt (visb (omF au) er ac) cn : Nat) : Int))) : Met l yX5_author wsX5_author ({ frames := 3, cells := 0, slots := 0, locals := 66 }) (va_Pc [.ref hm, .int (iI (x))] (RO D cI cB cZ cO [(hm, .inr (5, [.ref m1, .ref m2, .ref m3, .int (iI ((pa : Nat) : Int)), .int (iI ((pb : Nat) : Int)), .ref m4, .int (iI ((cp : Nat) : Int)), .ref m5, .int (iI ((ty : Nat) : Int)), .ref m6, .int (iI ((nx : Nat) : Int)), .int (iI (fi)), .int (iI (se)), .int (iI ((le : Nat) : Int)), .ref m7, .int (iI (bp)), .ref m8])), (m1, .inl (cI, 516, .inl (rI (sF cn en ac cu co au er ki bs))))])) (QO (-1)) 0 0 (fun _ => False) := by
  refine startO (cc := cX5_author) (maxL := 3) (ret := (some .int)) (by decide) rfl (Nat.le_of_ble_eq_true rfl) ?_
  intro p e s m below meth c S hr hlocks hE hP ls hl
  have hx := S.1
  have hb := S.2.1
  have hown := S.2.2.2.1
  have hts := S.2.2.2.2
  have hK := hE.1
  have hl : lv_has ls 3 [(0, .ref hm), (1, .int (iI (x)))] := hl
  have hcl := cnt_le (visb (omF au) er ac) cn
  refine lv_iload_n hx hb dX5_author_0 rfl (lv_at hl 1 rfl) ?_
  refine r_iconst hx hb dX5_author_1 ?_
  refine lv_aload_n hx hb dX5_author_2 rfl (lv_at hl 0 rfl) ?_
  refine callVO (n := 0) (As := []) (rest := [.int (iI 0), .int (iI (x))]) (wc := [(hm, .inr (5, [.ref m1, .ref m2, .ref m3, .int (iI ((pa : Nat) : Int)), .int (iI ((pb : Nat) : Int)), .ref m4, .int (iI ((cp : Nat) : Int)), .ref m5, .int (iI ((ty : Nat) : Int)), .ref m6, .int (iI ((nx : Nat) : Int)), .int (iI (fi)), .int (iI (se)), .int (iI ((le : Nat) : Int)), .ref m7, .int (iI (bp)), .ref m8])), (m1, .inl (cI, 516, .inl (rI (sF cn en ac cu co au er ki bs))))]) S (m_length l D cI cB cZ cO hm m1 m2 m3 m4 m5 m6 m7 m8 pa pb cp ty nx fi se le bp cn en ac cu co au er ki bs (by first | assumption | (omega)) (by first | assumption | (omega)) (by first | assumption | (omega)) (by first | assumption | (omega))) gX5_author_X5_length rfl ⟨rfl, rfl⟩ (by decide +kernel) ⟨Nat.le_of_ble_eq_true rfl, Nat.le_of_ble_eq_true rfl⟩ hE hP [0, 1] rfl 5 0 rfl rfl rfl hl.1 rfl (Nat.le_of_ble_eq_true rfl) dX5_author_3 ⟨Nat.le_of_ble_eq_true rfl, Nat.le_of_ble_eq_true rfl⟩ ?_
  refine r_iconst hx hb dX5_author_6 ?_
  refine r_isub (v := (((cnt (visb (omF au) er ac) cn : Nat) : Int) - 1)) hx hb (rfl) dX5_author_7 ?_
  rw [show (0 : Int) = (0) from by omega]
  refine callSO (n := 3) (As := [.int (iI (x)), .int (iI (0)), .int (iI (((cnt (visb (omF au) er ac) cn : Nat) : Int) - 1))]) (rest := []) (wc := []) S (m_in l D cI cB cZ cO x 0 (((cnt (visb (omF au) er ac) cn : Nat) : Int) - 1) (by first | assumption | (omega)) (by first | assumption | (omega)) (by first | assumption | (omega))) gX5_author_X5_in rfl ⟨rfl, rfl⟩ (by decide +kernel) ⟨Nat.le_of_ble_eq_true rfl, Nat.le_of_ble_eq_true rfl⟩ hE hP [] rfl rfl hl.1 rfl (Nat.le_of_ble_eq_true rfl) dX5_author_8 ⟨Nat.le_of_ble_eq_true rfl, Nat.le_of_ble_eq_true rfl⟩ ?_
  refine r_ifb_ne (tgt := 16) hx hb dX5_author_11 (by decide) (fun c_1 => ?_) (fun c_1 => ?_)
  · skip
    exfalso; omega
  · skip
    refine r_iconst hx hb dX5_author_14 ?_
    exact r_iretO hx hb hr hlocks (rfl) dX5_author_15

theorem kX5_author_7 : Cond.fieldLink RX5 7 "PricedUndoModel" "s" "[I" ∈ wsX5_author := by decide +kernel
theorem nX5_author_X5 : ∀ w ∈ u_ws RX5 TX5 17, w ∈ wsX5_author := by decide +kernel
set_option maxHeartbeats 4000000 in
set_option maxRecDepth 100000 in
theorem m_author (l : Launch) (D : va_G) (cI cB cZ cO : ClassId) (hm : Nat) (m1 : Nat) (m2 : Nat) (m3 : Nat) (m4 : Nat) (m5 : Nat) (m6 : Nat) (m7 : Nat) (m8 : Nat) (pa : Nat) (pb : Nat) (cp : Nat) (ty : Nat) (nx : Nat) (fi : Int) (se : Int) (le : Nat) (bp : Int) (cn : Nat) (en : Nat) (ac : Nat) (cu : Nat) (co : Nat → Nat) (au : Nat → Int) (er : Nat → Nat) (ki : Nat → Nat) (bs : Nat → Int) (j : Nat) (an : Nat) (hcn : cn ≤ 160) (hac : ac < 65536) (hau : ∀ k, -1 ≤ au k ∧ au k < 16) (her : ∀ k, er k < 65536) (hj : j < cnt (visb (omF au) er ac) cn) (han : atv (visb (omF au) er ac) cn j = (an : Int)) (hanl : an < cn) : Met l yX5_author wsX5_author ({ frames := 3, cells := 0, slots := 0, locals := 66 }) (va_Pc [.ref hm, .int (iI ((j : Nat) : Int))] (RO D cI cB cZ cO [(hm, .inr (5, [.ref m1, .ref m2, .ref m3, .int (iI ((pa : Nat) : Int)), .int (iI ((pb : Nat) : Int)), .ref m4, .int (iI ((cp : Nat) : Int)), .ref m5, .int (iI ((ty : Nat) : Int)), .ref m6, .int (iI ((nx : Nat) : Int)), .int (iI (fi)), .int (iI (se)), .int (iI ((le : Nat) : Int)), .ref m7, .int (iI (bp)), .ref m8])), (m1, .inl (cI, 516, .inl (rI (sF cn en ac cu co au er ki bs))))])) (QO (if au an = -1 then -9 else au an)) 0 0 (fun _ => False) := by
  refine startO (cc := cX5_author) (maxL := 3) (ret := (some .int)) (by decide) rfl (Nat.le_of_ble_eq_true rfl) ?_
  intro p e s m below meth c S hr hlocks hE hP ls hl
  have hx := S.1
  have hb := S.2.1
  have hown := S.2.2.2.1
  have hts := S.2.2.2.2
  have hK := hE.1
  have hl : lv_has ls 3 [(0, .ref hm), (1, .int (iI ((j : Nat) : Int)))] := hl
  have hcl := cnt_le (visb (omF au) er ac) cn
  have hak := hau an
  refine lv_iload_n hx hb dX5_author_0 rfl (lv_at hl 1 rfl) ?_
  refine r_iconst hx hb dX5_author_1 ?_
  refine lv_aload_n hx hb dX5_author_2 rfl (lv_at hl 0 rfl) ?_
  refine callVO (n := 0) (As := []) (rest := [.int (iI 0), .int (iI ((j : Nat) : Int))]) (wc := [(hm, .inr (5, [.ref m1, .ref m2, .ref m3, .int (iI ((pa : Nat) : Int)), .int (iI ((pb : Nat) : Int)), .ref m4, .int (iI ((cp : Nat) : Int)), .ref m5, .int (iI ((ty : Nat) : Int)), .ref m6, .int (iI ((nx : Nat) : Int)), .int (iI (fi)), .int (iI (se)), .int (iI ((le : Nat) : Int)), .ref m7, .int (iI (bp)), .ref m8])), (m1, .inl (cI, 516, .inl (rI (sF cn en ac cu co au er ki bs))))]) S (m_length l D cI cB cZ cO hm m1 m2 m3 m4 m5 m6 m7 m8 pa pb cp ty nx fi se le bp cn en ac cu co au er ki bs (by first | assumption | (first | omega | (rw [if_pos (by omega)]) | (rw [if_neg (by omega)]))) (by first | assumption | (first | omega | (rw [if_pos (by omega)]) | (rw [if_neg (by omega)]))) (by first | assumption | (first | omega | (rw [if_pos (by omega)]) | (rw [if_neg (by omega)]))) (by first | assumption | (first | omega | (rw [if_pos (by omega)]) | (rw [if_neg (by omega)])))) gX5_author_X5_length rfl ⟨rfl, rfl⟩ (by decide +kernel) ⟨Nat.le_of_ble_eq_true rfl, Nat.le_of_ble_eq_true rfl⟩ hE hP [0, 1] rfl 5 0 rfl rfl rfl hl.1 rfl (Nat.le_of_ble_eq_true rfl) dX5_author_3 ⟨Nat.le_of_ble_eq_true rfl, Nat.le_of_ble_eq_true rfl⟩ ?_
  refine r_iconst hx hb dX5_author_6 ?_
  refine r_isub (v := (((cnt (visb (omF au) er ac) cn : Nat) : Int) - 1)) hx hb (rfl) dX5_author_7 ?_
  rw [show (0 : Int) = (0) from by first | omega | (rw [if_pos (by omega)]) | (rw [if_neg (by omega)])]
  refine callSO (n := 3) (As := [.int (iI ((j : Nat) : Int)), .int (iI (0)), .int (iI (((cnt (visb (omF au) er ac) cn : Nat) : Int) - 1))]) (rest := []) (wc := []) S (m_in l D cI cB cZ cO (((j : Nat) : Int)) 0 (((cnt (visb (omF au) er ac) cn : Nat) : Int) - 1) (by first | assumption | (first | omega | (rw [if_pos (by omega)]) | (rw [if_neg (by omega)]))) (by first | assumption | (first | omega | (rw [if_pos (by omega)]) | (rw [if_neg (by omega)]))) (by first | assumption | (first | omega | (rw [if_pos (by omega)]) | (rw [if_neg (by omega)])))) gX5_author_X5_in rfl ⟨rfl, rfl⟩ (by decide +kernel) ⟨Nat.le_of_ble_eq_true rfl, Nat.le_of_ble_eq_true rfl⟩ hE hP [] rfl rfl hl.1 rfl (Nat.le_of_ble_eq_true rfl) dX5_author_8 ⟨Nat.le_of_ble_eq_true rfl, Nat.le_of_ble_eq_true rfl⟩ ?_
  refine r_ifb_ne (tgt := 16) hx hb dX5_author_11 (by decide) (fun c_1 => ?_) (fun c_1 => ?_)
  · skip
    refine lv_aload_n hx hb dX5_author_16 rfl (lv_at hl 0 rfl) ?_
    refine va_get (D := D) (ci := 5) (v := .ref m1) (C := RX5) (T := TX5) (N := 17) hx hb hts nX5_author_X5 hown hK hP 0 rfl rfl 0 (by decide) (hts _ kX5_author_7) (fun _ h9 => h9) rfl dX5_author_17 ?_
    refine r_sipush hx hb dX5_author_20 (by decide) ?_
    refine lv_aload_n hx hb dX5_author_23 rfl (lv_at hl 0 rfl) ?_
    refine lv_iload_n hx hb dX5_author_24 rfl (lv_at hl 1 rfl) ?_
    refine callVO (n := 1) (As := [.int (iI ((j : Nat) : Int))]) (rest := [.int (iI 164), .ref m1]) (wc := [(hm, .inr (5, [.ref m1, .ref m2, .ref m3, .int (iI ((pa : Nat) : Int)), .int (iI ((pb : Nat) : Int)), .ref m4, .int (iI ((cp : Nat) : Int)), .ref m5, .int (iI ((ty : Nat) : Int)), .ref m6, .int (iI ((nx : Nat) : Int)), .int (iI (fi)), .int (iI (se)), .int (iI ((le : Nat) : Int)), .ref m7, .int (iI (bp)), .ref m8])), (m1, .inl (cI, 516, .inl (rI (sF cn en ac cu co au er ki bs))))]) S (m_at l D cI cB cZ cO hm m1 m2 m3 m4 m5 m6 m7 m8 pa pb cp ty nx fi se le bp cn en ac cu co au er ki bs j (by first | assumption | (first | omega | (rw [if_pos (by omega)]) | (rw [if_neg (by omega)]))) (by first | assumption | (first | omega | (rw [if_pos (by omega)]) | (rw [if_neg (by omega)]))) (by first | assumption | (first | omega | (rw [if_pos (by omega)]) | (rw [if_neg (by omega)]))) (by first | assumption | (first | omega | (rw [if_pos (by omega)]) | (rw [if_neg (by omega)]))) (by first | assumption | (first | omega | (rw [if_pos (by omega)]) | (rw [if_neg (by omega)])))) gX5_author_X5_at rfl ⟨rfl, rfl⟩ (by decide +kernel) ⟨Nat.le_of_ble_eq_true rfl, Nat.le_of_ble_eq_true rfl⟩ hE hP [0, 1] rfl 5 0 rfl rfl rfl hl.1 rfl (Nat.le_of_ble_eq_true rfl) dX5_author_25 ⟨Nat.le_of_ble_eq_true rfl, Nat.le_of_ble_eq_true rfl⟩ ?_
    rw [han]
    refine r_iadd (v := ((164 + an : Nat) : Int)) hx hb (rfl) dX5_author_28 ?_
    refine r_ialdV (v := (au an)) hx hb hK hP 1 0 rfl rfl (164 + an) (rfl) (by first | omega | (rw [if_pos (by omega)]) | (rw [if_neg (by omega)])) (by decide) (sF_au (by first | omega | (rw [if_pos (by omega)]) | (rw [if_neg (by omega)]))) dX5_author_29 ?_
    refine lv_istore_n (lv' := [(2, .int (iI (au an))), (0, .ref hm), (1, .int (iI ((j : Nat) : Int)))]) hx hb dX5_author_30 rfl hl (by decide) rfl (fun ls hl => ?_)
    refine lv_iload_n hx hb dX5_author_31 rfl (lv_at hl 0 rfl) ?_
    refine r_iconst hx hb dX5_author_32 ?_
    refine r_icmp_ne (tgt := 41) hx hb (by first | omega | (rw [if_pos (by omega)]) | (rw [if_neg (by omega)])) (⟨by decide, by decide⟩) dX5_author_33 (by decide) (fun c_2 => ?_) (fun c_2 => ?_)
    · skip
      refine lv_iload_n hx hb dX5_author_41 rfl (lv_at hl 0 rfl) ?_
      exact r_iretO hx hb hr hlocks (by first | omega | (rw [if_pos (by omega)]) | (rw [if_neg (by omega)])) dX5_author_42
    · skip
      refine r_bipush hx hb dX5_author_36 (by decide) ?_
      refine lv_goto (tgt := 42) hx hb dX5_author_38 (by decide) ?_
      exact r_iretO hx hb hr hlocks (by first | omega | (rw [if_pos (by omega)]) | (rw [if_neg (by omega)])) dX5_author_42
  · skip
    exfalso; omega
