theorem kX5_takes_143 : Cond.fieldLink RX5 143 "PricedUndoModel" "next" "I" ∈ wsX5_takes := List.mem_of_getElem? (i := 1) (by decide +kernel)
theorem nX5_takes_X5 : ∀ w ∈ u_ws RX5 TX5 17, w ∈ wsX5_takes := in_lay 9 (by decide +kernel)
set_option maxHeartbeats 4000000 in
set_option maxRecDepth 100000 in
theorem m_takes (l : Launch) (D : va_G) (cI cB cZ cO : ClassId) (sz : Nat) (hm : Nat) (m1 : Nat) (m2 : Nat) (m3 : Nat) (m4 : Nat) (m5 : Nat) (m6 : Nat) (m7 : Nat) (m8 : Nat) (pa : Nat) (pb : Nat) (cp : Nat) (ty : Nat) (nx : Nat) (fi : Int) (se : Int) (le : Nat) (bp : Int) (cn : Nat) (en : Nat) (ac : Nat) (cu : Nat) (co : Nat → Nat) (au : Nat → Int) (er : Nat → Nat) (ki : Nat → Nat) (bs : Nat → Int) (sc : Nat → Nat) (w1 : Nat) (hty : ty ≤ 80) (hsc : ∀ k, sc k < 256) (hnx : nx < 65536) (hw1 : w1 < 256) : Met l yX5_takes wsX5_takes ({ frames := 1, cells := 0, slots := 0, locals := 20 }) (va_Pc [.ref hm, .int (iI ((w1 : Nat) : Int))] (RW D cI cB cZ cO sz [(hm, .inr (5, [.ref m1, .ref m2, .ref m3, .int (iI ((pa : Nat) : Int)), .int (iI ((pb : Nat) : Int)), .ref m4, .int (iI ((cp : Nat) : Int)), .ref m5, .int (iI ((ty : Nat) : Int)), .ref m6, .int (iI ((nx : Nat) : Int)), .int (iI (fi)), .int (iI (se)), .int (iI ((le : Nat) : Int)), .ref m7, .int (iI (bp)), .ref m8])), (m1, .inl (cI, 516, .inl (rI (sF cn en ac cu co au er ki bs)))), (m5, .inl (cB, 80, .inl (rI (fun j => sby (sc j)))))])) (QX D (S := Nat) (fun u => some (.int (iI (bI (tx sc ty nx = w1))))) (fun u => (tx sc ty nx = w1 → u = nx + 1) ∧ (¬ tx sc ty nx = w1 → u = nx)) (fun u => [(hm, .inr (5, [.ref m1, .ref m2, .ref m3, .int (iI ((pa : Nat) : Int)), .int (iI ((pb : Nat) : Int)), .ref m4, .int (iI ((cp : Nat) : Int)), .ref m5, .int (iI ((ty : Nat) : Int)), .ref m6, .int (iI ((u : Nat) : Int)), .int (iI (fi)), .int (iI (se)), .int (iI ((le : Nat) : Int)), .ref m7, .int (iI (bp)), .ref m8])), (m1, .inl (cI, 516, .inl (rI (sF cn en ac cu co au er ki bs)))), (m5, .inl (cB, 80, .inl (rI (fun j => sby (sc j)))))]) (va_A [(hm, .inr (5, [.ref m1, .ref m2, .ref m3, .int (iI ((pa : Nat) : Int)), .int (iI ((pb : Nat) : Int)), .ref m4, .int (iI ((cp : Nat) : Int)), .ref m5, .int (iI ((ty : Nat) : Int)), .ref m6, .int (iI ((nx : Nat) : Int)), .int (iI (fi)), .int (iI (se)), .int (iI ((le : Nat) : Int)), .ref m7, .int (iI (bp)), .ref m8])), (m1, .inl (cI, 516, .inl (rI (sF cn en ac cu co au er ki bs)))), (m5, .inl (cB, 80, .inl (rI (fun j => sby (sc j)))))] sz)) 0 0 (va_A [(hm, .inr (5, [.ref m1, .ref m2, .ref m3, .int (iI ((pa : Nat) : Int)), .int (iI ((pb : Nat) : Int)), .ref m4, .int (iI ((cp : Nat) : Int)), .ref m5, .int (iI ((ty : Nat) : Int)), .ref m6, .int (iI ((nx : Nat) : Int)), .int (iI (fi)), .int (iI (se)), .int (iI ((le : Nat) : Int)), .ref m7, .int (iI (bp)), .ref m8])), (m1, .inl (cI, 516, .inl (rI (sF cn en ac cu co au er ki bs)))), (m5, .inl (cB, 80, .inl (rI (fun j => sby (sc j)))))] sz) := by
  refine startW (cc := cX5_takes) (maxL := 3) (ret := (some .boolean)) (by decide) rfl (Nat.le_of_ble_eq_true rfl) ?_
  intro p e s m below meth c S hr hlocks hE hP A hD hA hS ls hl
  have hx := S.1
  have hb := S.2.1
  have hown := S.2.2.2.1
  have hts := S.2.2.2.2
  have hK := hE.1
  have hl : lv_has ls 3 [(0, .ref hm), (1, .int (iI ((w1 : Nat) : Int)))] := hl
  have htx := @hre_tx sc ty (nx)
  have hsp := hsc (nx)
  refine lv_aload_n hx hb dX5_takes_0 rfl (lv_at hl 0 rfl) ?_
  refine callVO (n := 0) (As := []) (rest := []) (wc := [(hm, .inr (5, [.ref m1, .ref m2, .ref m3, .int (iI ((pa : Nat) : Int)), .int (iI ((pb : Nat) : Int)), .ref m4, .int (iI ((cp : Nat) : Int)), .ref m5, .int (iI ((ty : Nat) : Int)), .ref m6, .int (iI ((nx : Nat) : Int)), .int (iI (fi)), .int (iI (se)), .int (iI ((le : Nat) : Int)), .ref m7, .int (iI (bp)), .ref m8])), (m1, .inl (cI, 516, .inl (rI (sF cn en ac cu co au er ki bs)))), (m5, .inl (cB, 80, .inl (rI (fun j => sby (sc j)))))]) S (m_here l D cI cB cZ cO hm m1 m2 m3 m4 m5 m6 m7 m8 pa pb cp ty nx fi se le bp cn en ac cu co au er ki bs sc (by first | assumption | (omega)) (by first | assumption | (omega)) (by first | assumption | (omega))) gX5_takes_X5_here rfl ⟨rfl, rfl⟩ (by decide +kernel) ⟨Nat.le_of_ble_eq_true rfl, Nat.le_of_ble_eq_true rfl⟩ hE hP [0, 1, 2] rfl 5 0 rfl rfl rfl hl.1 rfl (Nat.le_of_ble_eq_true rfl) dX5_takes_1 ⟨Nat.le_of_ble_eq_true rfl, Nat.le_of_ble_eq_true rfl⟩ ?_
  refine lv_iload_n hx hb dX5_takes_4 rfl (lv_at hl 1 rfl) ?_
  refine r_icmp_ne (tgt := 12) hx hb (by omega) (by omega) dX5_takes_5 (by decide) (fun c_1 => ?_) (fun c_1 => ?_)
  · skip
    refine r_iconst hx hb dX5_takes_12 ?_
    refine lv_istore_n (lv' := [(2, .int (iI 0)), (0, .ref hm), (1, .int (iI ((w1 : Nat) : Int)))]) hx hb dX5_takes_13 rfl hl (by decide) rfl (fun ls hl => ?_)
    refine lv_aload_n hx hb dX5_takes_14 rfl (lv_at hl 1 rfl) ?_
    refine lv_dup hx hb dX5_takes_15 rfl ?_
    refine va_get (D := D) (ci := 5) (v := .int (iI ((nx : Nat) : Int))) (C := RX5) (T := TX5) (N := 17) hx hb hts nX5_takes_X5 hown hK hP 0 rfl rfl 10 (by decide) (hts _ kX5_takes_143) (fun _ h9 => h9) rfl dX5_takes_16 ?_
    refine lv_iload_n hx hb dX5_takes_19 rfl (lv_at hl 0 rfl) ?_
    refine r_if_eq (tgt := 27) hx hb (⟨by decide, by decide⟩) dX5_takes_20 (by decide) (fun c_2 => ?_) (fun c_2 => ?_)
    · skip
      refine r_iconst hx hb dX5_takes_27 ?_
      refine r_iadd (v := ((nx + 0 : Nat) : Int)) hx hb (rfl) dX5_takes_28 ?_
      refine va_put (D := D) (ci := 5) (v := .int (iI ((nx + 0 : Nat) : Int))) (ty := .int) (C := RX5) (T := TX5) (N := 17) hx hb hts nX5_takes_X5 tyX5 tyX5_ok nmX5 hown hK hP hD hS 0 rfl rfl 10 (by decide) (hts _ kX5_takes_143) (fun _ h9 => h9) rfl (by decide +kernel) rfl rfl (Nat.le_of_ble_eq_true rfl) dX5_takes_29 (fun H locs hP hD hS => ?_)
      have hP : va_P D vwCl [(hm, .inr (5, [.ref m1, .ref m2, .ref m3, .int (iI ((pa : Nat) : Int)), .int (iI ((pb : Nat) : Int)), .ref m4, .int (iI ((cp : Nat) : Int)), .ref m5, .int (iI ((ty : Nat) : Int)), .ref m6, .int (iI ((nx + 0 : Nat) : Int)), .int (iI (fi)), .int (iI (se)), .int (iI ((le : Nat) : Int)), .ref m7, .int (iI (bp)), .ref m8])), (m1, .inl (cI, 516, .inl (rI (sF cn en ac cu co au er ki bs)))), (m5, .inl (cB, 80, .inl (rI (fun j => sby (sc j)))))] H := hP
      have hD : va_D A [(hm, .inr (5, [.ref m1, .ref m2, .ref m3, .int (iI ((pa : Nat) : Int)), .int (iI ((pb : Nat) : Int)), .ref m4, .int (iI ((cp : Nat) : Int)), .ref m5, .int (iI ((ty : Nat) : Int)), .ref m6, .int (iI ((nx + 0 : Nat) : Int)), .int (iI (fi)), .int (iI (se)), .int (iI ((le : Nat) : Int)), .ref m7, .int (iI (bp)), .ref m8])), (m1, .inl (cI, 516, .inl (rI (sF cn en ac cu co au er ki bs)))), (m5, .inl (cB, 80, .inl (rI (fun j => sby (sc j)))))] := hD
      refine lv_iload_n hx hb dX5_takes_32 rfl (lv_at hl 0 rfl) ?_
      exact r_zretX hx hb hr hlocks hP hD hS (nx + 0) (congrArg (fun z => some (Value.int (iI z))) (((bI_f (by omega)).symm : 0 = (bI (tx sc ty nx = w1))).symm)) (⟨by omega, by omega⟩) rfl (Or.inl rfl) dX5_takes_33
    · skip
      exact absurd c_2 (by decide)
  · skip
    refine r_iconst hx hb dX5_takes_8 ?_
    refine lv_goto (tgt := 13) hx hb dX5_takes_9 (by decide) ?_
    refine lv_istore_n (lv' := [(2, .int (iI 1)), (0, .ref hm), (1, .int (iI ((w1 : Nat) : Int)))]) hx hb dX5_takes_13 rfl hl (by decide) rfl (fun ls hl => ?_)
    refine lv_aload_n hx hb dX5_takes_14 rfl (lv_at hl 1 rfl) ?_
    refine lv_dup hx hb dX5_takes_15 rfl ?_
    refine va_get (D := D) (ci := 5) (v := .int (iI ((nx : Nat) : Int))) (C := RX5) (T := TX5) (N := 17) hx hb hts nX5_takes_X5 hown hK hP 0 rfl rfl 10 (by decide) (hts _ kX5_takes_143) (fun _ h9 => h9) rfl dX5_takes_16 ?_
    refine lv_iload_n hx hb dX5_takes_19 rfl (lv_at hl 0 rfl) ?_
    refine r_if_eq (tgt := 27) hx hb (⟨by decide, by decide⟩) dX5_takes_20 (by decide) (fun c_3 => ?_) (fun c_3 => ?_)
    · skip
      exact absurd c_3 (by decide)
    · skip
      refine r_iconst hx hb dX5_takes_23 ?_
      refine lv_goto (tgt := 28) hx hb dX5_takes_24 (by decide) ?_
      refine r_iadd (v := ((nx + 1 : Nat) : Int)) hx hb (rfl) dX5_takes_28 ?_
      refine va_put (D := D) (ci := 5) (v := .int (iI ((nx + 1 : Nat) : Int))) (ty := .int) (C := RX5) (T := TX5) (N := 17) hx hb hts nX5_takes_X5 tyX5 tyX5_ok nmX5 hown hK hP hD hS 0 rfl rfl 10 (by decide) (hts _ kX5_takes_143) (fun _ h9 => h9) rfl (by decide +kernel) rfl rfl (Nat.le_of_ble_eq_true rfl) dX5_takes_29 (fun H locs hP hD hS => ?_)
      have hP : va_P D vwCl [(hm, .inr (5, [.ref m1, .ref m2, .ref m3, .int (iI ((pa : Nat) : Int)), .int (iI ((pb : Nat) : Int)), .ref m4, .int (iI ((cp : Nat) : Int)), .ref m5, .int (iI ((ty : Nat) : Int)), .ref m6, .int (iI ((nx + 1 : Nat) : Int)), .int (iI (fi)), .int (iI (se)), .int (iI ((le : Nat) : Int)), .ref m7, .int (iI (bp)), .ref m8])), (m1, .inl (cI, 516, .inl (rI (sF cn en ac cu co au er ki bs)))), (m5, .inl (cB, 80, .inl (rI (fun j => sby (sc j)))))] H := hP
      have hD : va_D A [(hm, .inr (5, [.ref m1, .ref m2, .ref m3, .int (iI ((pa : Nat) : Int)), .int (iI ((pb : Nat) : Int)), .ref m4, .int (iI ((cp : Nat) : Int)), .ref m5, .int (iI ((ty : Nat) : Int)), .ref m6, .int (iI ((nx + 1 : Nat) : Int)), .int (iI (fi)), .int (iI (se)), .int (iI ((le : Nat) : Int)), .ref m7, .int (iI (bp)), .ref m8])), (m1, .inl (cI, 516, .inl (rI (sF cn en ac cu co au er ki bs)))), (m5, .inl (cB, 80, .inl (rI (fun j => sby (sc j)))))] := hD
      refine lv_iload_n hx hb dX5_takes_32 rfl (lv_at hl 0 rfl) ?_
      exact r_zretX hx hb hr hlocks hP hD hS (nx + 1) (congrArg (fun z => some (Value.int (iI z))) (((bI_t (by omega)).symm : 1 = (bI (tx sc ty nx = w1))).symm)) (⟨by omega, by omega⟩) rfl (Or.inr rfl) dX5_takes_33

theorem kX5_skips_143 : Cond.fieldLink RX5 143 "PricedUndoModel" "next" "I" ∈ wsX5_skips := List.mem_of_getElem? (i := 1) (by decide +kernel)
theorem nX5_skips_X5 : ∀ w ∈ u_ws RX5 TX5 17, w ∈ wsX5_skips := in_lay 9 (by decide +kernel)
set_option maxHeartbeats 4000000 in
set_option maxRecDepth 100000 in
theorem m_skips (l : Launch) (D : va_G) (cI cB cZ cO : ClassId) (sz : Nat) (hm : Nat) (m1 : Nat) (m2 : Nat) (m3 : Nat) (m4 : Nat) (m5 : Nat) (m6 : Nat) (m7 : Nat) (m8 : Nat) (pa : Nat) (pb : Nat) (cp : Nat) (ty : Nat) (nx : Nat) (fi : Int) (se : Int) (le : Nat) (bp : Int) (cn : Nat) (en : Nat) (ac : Nat) (cu : Nat) (co : Nat → Nat) (au : Nat → Int) (er : Nat → Nat) (ki : Nat → Nat) (bs : Nat → Int) (sc : Nat → Nat) (hty : ty ≤ 80) (hsc : ∀ k, sc k < 256) (hnx : nx < 65536) : Met l yX5_skips wsX5_skips ({ frames := 1, cells := 0, slots := 0, locals := 20 }) (va_Pc [.ref hm] (RW D cI cB cZ cO sz [(hm, .inr (5, [.ref m1, .ref m2, .ref m3, .int (iI ((pa : Nat) : Int)), .int (iI ((pb : Nat) : Int)), .ref m4, .int (iI ((cp : Nat) : Int)), .ref m5, .int (iI ((ty : Nat) : Int)), .ref m6, .int (iI ((nx : Nat) : Int)), .int (iI (fi)), .int (iI (se)), .int (iI ((le : Nat) : Int)), .ref m7, .int (iI (bp)), .ref m8])), (m1, .inl (cI, 516, .inl (rI (sF cn en ac cu co au er ki bs)))), (m5, .inl (cB, 80, .inl (rI (fun j => sby (sc j)))))])) (QX D (S := Nat) (fun u => none) (fun u => (u = sk (tx sc ty) nx) ∧ (u = nx ∨ u ≤ ty)) (fun u => [(hm, .inr (5, [.ref m1, .ref m2, .ref m3, .int (iI ((pa : Nat) : Int)), .int (iI ((pb : Nat) : Int)), .ref m4, .int (iI ((cp : Nat) : Int)), .ref m5, .int (iI ((ty : Nat) : Int)), .ref m6, .int (iI ((u : Nat) : Int)), .int (iI (fi)), .int (iI (se)), .int (iI ((le : Nat) : Int)), .ref m7, .int (iI (bp)), .ref m8])), (m1, .inl (cI, 516, .inl (rI (sF cn en ac cu co au er ki bs)))), (m5, .inl (cB, 80, .inl (rI (fun j => sby (sc j)))))]) (va_A [(hm, .inr (5, [.ref m1, .ref m2, .ref m3, .int (iI ((pa : Nat) : Int)), .int (iI ((pb : Nat) : Int)), .ref m4, .int (iI ((cp : Nat) : Int)), .ref m5, .int (iI ((ty : Nat) : Int)), .ref m6, .int (iI ((nx : Nat) : Int)), .int (iI (fi)), .int (iI (se)), .int (iI ((le : Nat) : Int)), .ref m7, .int (iI (bp)), .ref m8])), (m1, .inl (cI, 516, .inl (rI (sF cn en ac cu co au er ki bs)))), (m5, .inl (cB, 80, .inl (rI (fun j => sby (sc j)))))] sz)) 0 0 (va_A [(hm, .inr (5, [.ref m1, .ref m2, .ref m3, .int (iI ((pa : Nat) : Int)), .int (iI ((pb : Nat) : Int)), .ref m4, .int (iI ((cp : Nat) : Int)), .ref m5, .int (iI ((ty : Nat) : Int)), .ref m6, .int (iI ((nx : Nat) : Int)), .int (iI (fi)), .int (iI (se)), .int (iI ((le : Nat) : Int)), .ref m7, .int (iI (bp)), .ref m8])), (m1, .inl (cI, 516, .inl (rI (sF cn en ac cu co au er ki bs)))), (m5, .inl (cB, 80, .inl (rI (fun j => sby (sc j)))))] sz) := by
  refine startW (cc := cX5_skips) (maxL := 1) (ret := none) (by decide) rfl (Nat.le_of_ble_eq_true rfl) ?_
  intro p e s m below meth c S hr hlocks hE hP A hD hA hS ls hl
  have hx := S.1
  have hb := S.2.1
  have hown := S.2.2.2.1
  have hts := S.2.2.2.2
  have hK := hE.1
  have hl : lv_has ls 1 [(0, .ref hm)] := hl
  have loop_0 : ∀ (n_0 : Nat) (d : Nat), (ty - (nx + d)) < n_0 → (∀ j, j < d → tx sc ty (nx + j) = 32) → (d = 0 ∨ nx + d ≤ ty) → ∀ (H : Heap) (locs : List Loc), va_P D vwCl [(hm, .inr (5, [.ref m1, .ref m2, .ref m3, .int (iI ((pa : Nat) : Int)), .int (iI ((pb : Nat) : Int)), .ref m4, .int (iI ((cp : Nat) : Int)), .ref m5, .int (iI ((ty : Nat) : Int)), .ref m6, .int (iI ((nx + d : Nat) : Int)), .int (iI (fi)), .int (iI (se)), .int (iI ((le : Nat) : Int)), .ref m7, .int (iI (bp)), .ref m8])), (m1, .inl (cI, 516, .inl (rI (sF cn en ac cu co au er ki bs)))), (m5, .inl (cB, 80, .inl (rI (fun j => sby (sc j)))))] H → va_D A [(hm, .inr (5, [.ref m1, .ref m2, .ref m3, .int (iI ((pa : Nat) : Int)), .int (iI ((pb : Nat) : Int)), .ref m4, .int (iI ((cp : Nat) : Int)), .ref m5, .int (iI ((ty : Nat) : Int)), .ref m6, .int (iI ((nx + d : Nat) : Int)), .int (iI (fi)), .int (iI (se)), .int (iI ((le : Nat) : Int)), .ref m7, .int (iI (bp)), .ref m8])), (m1, .inl (cI, 516, .inl (rI (sF cn en ac cu co au er ki bs)))), (m5, .inl (cB, 80, .inl (rI (fun j => sby (sc j)))))] → va_S A s.heap H locs → ∀ (ls : Array Slot), lv_has ls 1 [(0, .ref hm)] → W p l e ({ frames := 1, cells := 0, slots := 0, locals := 20 }) s m ([.ref hm] : List Value).toArray below meth c H locs 0 0 (MQ below (QX D (S := Nat) (fun u => none) (fun u => (u = sk (tx sc ty) nx) ∧ (u = nx ∨ u ≤ ty)) (fun u => [(hm, .inr (5, [.ref m1, .ref m2, .ref m3, .int (iI ((pa : Nat) : Int)), .int (iI ((pb : Nat) : Int)), .ref m4, .int (iI ((cp : Nat) : Int)), .ref m5, .int (iI ((ty : Nat) : Int)), .ref m6, .int (iI ((u : Nat) : Int)), .int (iI (fi)), .int (iI (se)), .int (iI ((le : Nat) : Int)), .ref m7, .int (iI (bp)), .ref m8])), (m1, .inl (cI, 516, .inl (rI (sF cn en ac cu co au er ki bs)))), (m5, .inl (cB, 80, .inl (rI (fun j => sby (sc j)))))]) A) ([.ref hm] : List Value).toArray s 0 0 A) (F0 m 0 ls []) := by
    intro n_0
    induction n_0 with
    | zero => intro d h_meas; exact absurd h_meas (Nat.not_lt_zero _)
    | succ n_0 ih_0 =>
      intro d h_m0 il ib H locs hP hD hS ls hl
      have htx := @hre_tx sc ty (nx + d)
      have hsp := hsc (nx + d)
      refine lv_aload_n hx hb dX5_skips_0 rfl (lv_at hl 0 rfl) ?_
      refine callVO (n := 0) (As := []) (rest := []) (wc := [(hm, .inr (5, [.ref m1, .ref m2, .ref m3, .int (iI ((pa : Nat) : Int)), .int (iI ((pb : Nat) : Int)), .ref m4, .int (iI ((cp : Nat) : Int)), .ref m5, .int (iI ((ty : Nat) : Int)), .ref m6, .int (iI ((nx + d : Nat) : Int)), .int (iI (fi)), .int (iI (se)), .int (iI ((le : Nat) : Int)), .ref m7, .int (iI (bp)), .ref m8])), (m1, .inl (cI, 516, .inl (rI (sF cn en ac cu co au er ki bs)))), (m5, .inl (cB, 80, .inl (rI (fun j => sby (sc j)))))]) S (m_here l D cI cB cZ cO hm m1 m2 m3 m4 m5 m6 m7 m8 pa pb cp ty (nx + d) fi se le bp cn en ac cu co au er ki bs sc (by first | assumption | (omega)) (by first | assumption | (omega)) (by first | assumption | (omega))) gX5_skips_X5_here rfl ⟨rfl, rfl⟩ (by decide +kernel) ⟨Nat.le_of_ble_eq_true rfl, Nat.le_of_ble_eq_true rfl⟩ hE hP [0, 1, 2] rfl 5 0 rfl rfl rfl hl.1 rfl (Nat.le_of_ble_eq_true rfl) dX5_skips_1 ⟨Nat.le_of_ble_eq_true rfl, Nat.le_of_ble_eq_true rfl⟩ ?_
      refine r_bipush hx hb dX5_skips_4 (by decide) ?_
      refine r_icmp_ne (tgt := 22) hx hb (by omega) (⟨by decide, by decide⟩) dX5_skips_6 (by decide) (fun c_1 => ?_) (fun c_1 => ?_)
      · skip
        exact r_vretX hx hb hr hlocks hP hD hS (nx + d) rfl (⟨by exact (sk_eq il (by omega) (by omega)).symm, by omega⟩) rfl dX5_skips_22
      · skip
        refine lv_aload_n hx hb dX5_skips_9 rfl (lv_at hl 0 rfl) ?_
        refine lv_dup hx hb dX5_skips_10 rfl ?_
        refine va_get (D := D) (ci := 5) (v := .int (iI ((nx + d : Nat) : Int))) (C := RX5) (T := TX5) (N := 17) hx hb hts nX5_skips_X5 hown hK hP 0 rfl rfl 10 (by decide) (hts _ kX5_skips_143) (fun _ h9 => h9) rfl dX5_skips_11 ?_
        refine r_iconst hx hb dX5_skips_14 ?_
        refine r_iadd (v := (((nx + d) + 1 : Nat) : Int)) hx hb (rfl) dX5_skips_15 ?_
        refine va_put (D := D) (ci := 5) (v := .int (iI (((nx + d) + 1 : Nat) : Int))) (ty := .int) (C := RX5) (T := TX5) (N := 17) hx hb hts nX5_skips_X5 tyX5 tyX5_ok nmX5 hown hK hP hD hS 0 rfl rfl 10 (by decide) (hts _ kX5_skips_143) (fun _ h9 => h9) rfl (by decide +kernel) rfl rfl (Nat.le_of_ble_eq_true rfl) dX5_skips_16 (fun H locs hP hD hS => ?_)
        have hP : va_P D vwCl [(hm, .inr (5, [.ref m1, .ref m2, .ref m3, .int (iI ((pa : Nat) : Int)), .int (iI ((pb : Nat) : Int)), .ref m4, .int (iI ((cp : Nat) : Int)), .ref m5, .int (iI ((ty : Nat) : Int)), .ref m6, .int (iI (((nx + d) + 1 : Nat) : Int)), .int (iI (fi)), .int (iI (se)), .int (iI ((le : Nat) : Int)), .ref m7, .int (iI (bp)), .ref m8])), (m1, .inl (cI, 516, .inl (rI (sF cn en ac cu co au er ki bs)))), (m5, .inl (cB, 80, .inl (rI (fun j => sby (sc j)))))] H := hP
        have hD : va_D A [(hm, .inr (5, [.ref m1, .ref m2, .ref m3, .int (iI ((pa : Nat) : Int)), .int (iI ((pb : Nat) : Int)), .ref m4, .int (iI ((cp : Nat) : Int)), .ref m5, .int (iI ((ty : Nat) : Int)), .ref m6, .int (iI (((nx + d) + 1 : Nat) : Int)), .int (iI (fi)), .int (iI (se)), .int (iI ((le : Nat) : Int)), .ref m7, .int (iI (bp)), .ref m8])), (m1, .inl (cI, 516, .inl (rI (sF cn en ac cu co au er ki bs)))), (m5, .inl (cB, 80, .inl (rI (fun j => sby (sc j)))))] := hD
        refine lv_goto (tgt := 0) hx hb dX5_skips_19 (by decide) ?_
        have hww : ([(hm, .inr (5, [.ref m1, .ref m2, .ref m3, .int (iI ((pa : Nat) : Int)), .int (iI ((pb : Nat) : Int)), .ref m4, .int (iI ((cp : Nat) : Int)), .ref m5, .int (iI ((ty : Nat) : Int)), .ref m6, .int (iI (((nx + d) + 1 : Nat) : Int)), .int (iI (fi)), .int (iI (se)), .int (iI ((le : Nat) : Int)), .ref m7, .int (iI (bp)), .ref m8])), (m1, .inl (cI, 516, .inl (rI (sF cn en ac cu co au er ki bs)))), (m5, .inl (cB, 80, .inl (rI (fun j => sby (sc j)))))] : va_W) = [(hm, .inr (5, [.ref m1, .ref m2, .ref m3, .int (iI ((pa : Nat) : Int)), .int (iI ((pb : Nat) : Int)), .ref m4, .int (iI ((cp : Nat) : Int)), .ref m5, .int (iI ((ty : Nat) : Int)), .ref m6, .int (iI ((nx + (d + 1) : Nat) : Int)), .int (iI (fi)), .int (iI (se)), .int (iI ((le : Nat) : Int)), .ref m7, .int (iI (bp)), .ref m8])), (m1, .inl (cI, 516, .inl (rI (sF cn en ac cu co au er ki bs)))), (m5, .inl (cB, 80, .inl (rI (fun j => sby (sc j)))))] := by rw [Nat.add_assoc _ d 1]
        rw [hww] at hP hD
        exact ih_0 (d + 1) (by omega) (by exact run_s il (by omega)) (by first | assumption | (omega)) H locs hP hD hS ls (lv_sub hl [0] rfl)
  have hww : ([(hm, .inr (5, [.ref m1, .ref m2, .ref m3, .int (iI ((pa : Nat) : Int)), .int (iI ((pb : Nat) : Int)), .ref m4, .int (iI ((cp : Nat) : Int)), .ref m5, .int (iI ((ty : Nat) : Int)), .ref m6, .int (iI ((nx : Nat) : Int)), .int (iI (fi)), .int (iI (se)), .int (iI ((le : Nat) : Int)), .ref m7, .int (iI (bp)), .ref m8])), (m1, .inl (cI, 516, .inl (rI (sF cn en ac cu co au er ki bs)))), (m5, .inl (cB, 80, .inl (rI (fun j => sby (sc j)))))] : va_W) = [(hm, .inr (5, [.ref m1, .ref m2, .ref m3, .int (iI ((pa : Nat) : Int)), .int (iI ((pb : Nat) : Int)), .ref m4, .int (iI ((cp : Nat) : Int)), .ref m5, .int (iI ((ty : Nat) : Int)), .ref m6, .int (iI ((nx + 0 : Nat) : Int)), .int (iI (fi)), .int (iI (se)), .int (iI ((le : Nat) : Int)), .ref m7, .int (iI (bp)), .ref m8])), (m1, .inl (cI, 516, .inl (rI (sF cn en ac cu co au er ki bs)))), (m5, .inl (cB, 80, .inl (rI (fun j => sby (sc j)))))] := by rw [Nat.add_zero]
  rw [hww] at hP hD
  exact loop_0 ((ty - (nx + 0)) + 1) 0 (by omega) (by intro j hj; omega) (by first | assumption | (omega)) s.heap [] hP hD hS ls (lv_sub hl [0] rfl)

theorem kX5_readsNumber_143 : Cond.fieldLink RX5 143 "PricedUndoModel" "next" "I" ∈ wsX5_readsNumber := List.mem_of_getElem? (i := 1) (by decide +kernel)
theorem nX5_readsNumber_X5 : ∀ w ∈ u_ws RX5 TX5 17, w ∈ wsX5_readsNumber := in_lay 12 (by decide +kernel)
set_option maxHeartbeats 4000000 in
set_option maxRecDepth 100000 in
theorem m_readsNumber (l : Launch) (D : va_G) (cI cB cZ cO : ClassId) (sz : Nat) (hm : Nat) (m1 : Nat) (m2 : Nat) (m3 : Nat) (m4 : Nat) (m5 : Nat) (m6 : Nat) (m7 : Nat) (m8 : Nat) (pa : Nat) (pb : Nat) (cp : Nat) (ty : Nat) (nx : Nat) (fi : Int) (se : Int) (le : Nat) (bp : Int) (cn : Nat) (en : Nat) (ac : Nat) (cu : Nat) (co : Nat → Nat) (au : Nat → Int) (er : Nat → Nat) (ki : Nat → Nat) (bs : Nat → Int) (sc : Nat → Nat) (hty : ty ≤ 80) (hsc : ∀ k, sc k < 256) (hnx : nx < 65530) : Met l yX5_readsNumber wsX5_readsNumber ({ frames := 1, cells := 0, slots := 0, locals := 22 }) (va_Pc [.ref hm] (RW D cI cB cZ cO sz [(hm, .inr (5, [.ref m1, .ref m2, .ref m3, .int (iI ((pa : Nat) : Int)), .int (iI ((pb : Nat) : Int)), .ref m4, .int (iI ((cp : Nat) : Int)), .ref m5, .int (iI ((ty : Nat) : Int)), .ref m6, .int (iI ((nx : Nat) : Int)), .int (iI (fi)), .int (iI (se)), .int (iI ((le : Nat) : Int)), .ref m7, .int (iI (bp)), .ref m8])), (m1, .inl (cI, 516, .inl (rI (sF cn en ac cu co au er ki bs)))), (m5, .inl (cB, 80, .inl (rI (fun j => sby (sc j)))))])) (QX D (S := Nat × Int) (fun u => some (.int (iI (u.2)))) (fun u => ((48 ≤ tx sc ty nx ∧ tx sc ty nx ≤ 57) → u.1 = nE (tx sc ty) nx ∧ u.2 = ((nV (tx sc ty) nx : Nat) : Int)) ∧ (¬ (48 ≤ tx sc ty nx ∧ tx sc ty nx ≤ 57) → u.1 = nx ∧ u.2 = -1)) (fun u => [(hm, .inr (5, [.ref m1, .ref m2, .ref m3, .int (iI ((pa : Nat) : Int)), .int (iI ((pb : Nat) : Int)), .ref m4, .int (iI ((cp : Nat) : Int)), .ref m5, .int (iI ((ty : Nat) : Int)), .ref m6, .int (iI ((u.1 : Nat) : Int)), .int (iI (fi)), .int (iI (se)), .int (iI ((le : Nat) : Int)), .ref m7, .int (iI (bp)), .ref m8])), (m1, .inl (cI, 516, .inl (rI (sF cn en ac cu co au er ki bs)))), (m5, .inl (cB, 80, .inl (rI (fun j => sby (sc j)))))]) (va_A [(hm, .inr (5, [.ref m1, .ref m2, .ref m3, .int (iI ((pa : Nat) : Int)), .int (iI ((pb : Nat) : Int)), .ref m4, .int (iI ((cp : Nat) : Int)), .ref m5, .int (iI ((ty : Nat) : Int)), .ref m6, .int (iI ((nx : Nat) : Int)), .int (iI (fi)), .int (iI (se)), .int (iI ((le : Nat) : Int)), .ref m7, .int (iI (bp)), .ref m8])), (m1, .inl (cI, 516, .inl (rI (sF cn en ac cu co au er ki bs)))), (m5, .inl (cB, 80, .inl (rI (fun j => sby (sc j)))))] sz)) 0 0 (va_A [(hm, .inr (5, [.ref m1, .ref m2, .ref m3, .int (iI ((pa : Nat) : Int)), .int (iI ((pb : Nat) : Int)), .ref m4, .int (iI ((cp : Nat) : Int)), .ref m5, .int (iI ((ty : Nat) : Int)), .ref m6, .int (iI ((nx : Nat) : Int)), .int (iI (fi)), .int (iI (se)), .int (iI ((le : Nat) : Int)), .ref m7, .int (iI (bp)), .ref m8])), (m1, .inl (cI, 516, .inl (rI (sF cn en ac cu co au er ki bs)))), (m5, .inl (cB, 80, .inl (rI (fun j => sby (sc j)))))] sz) := by
  refine startW (cc := cX5_readsNumber) (maxL := 4) (ret := (some .int)) (by decide) rfl (Nat.le_of_ble_eq_true rfl) ?_
  intro p e s m below meth c S hr hlocks hE hP A hD hA hS ls hl
  have hx := S.1
  have hb := S.2.1
  have hown := S.2.2.2.1
  have hts := S.2.2.2.2
  have hK := hE.1
  have hl : lv_has ls 4 [(0, .ref hm)] := hl
  have htx := @hre_tx sc ty (nx)
  have hsp := hsc (nx)
  have htx1 := @hre_tx sc ty (nx + 1)
  have hsp1 := hsc (nx + 1)
  have hne := nE_f (tx sc ty) nx
  refine lv_aload_n hx hb dX5_readsNumber_0 rfl (lv_at hl 0 rfl) ?_
  refine va_get (D := D) (ci := 5) (v := .int (iI ((nx : Nat) : Int))) (C := RX5) (T := TX5) (N := 17) hx hb hts nX5_readsNumber_X5 hown hK hP 0 rfl rfl 10 (by decide) (hts _ kX5_readsNumber_143) (fun _ h9 => h9) rfl dX5_readsNumber_1 ?_
  refine lv_istore_n (lv' := [(1, .int (iI ((nx : Nat) : Int))), (0, .ref hm)]) hx hb dX5_readsNumber_4 rfl hl (by decide) rfl (fun ls hl => ?_)
  refine r_iconst hx hb dX5_readsNumber_5 ?_
  refine lv_istore_n (lv' := [(2, .int (iI 0)), (1, .int (iI ((nx : Nat) : Int))), (0, .ref hm)]) hx hb dX5_readsNumber_6 rfl hl (by decide) rfl (fun ls hl => ?_)
  refine r_iconst hx hb dX5_readsNumber_7 ?_
  refine lv_istore_n (lv' := [(3, .int (iI 1)), (2, .int (iI 0)), (1, .int (iI ((nx : Nat) : Int))), (0, .ref hm)]) hx hb dX5_readsNumber_8 rfl hl (by decide) rfl (fun ls hl => ?_)
  refine lv_iload_n hx hb dX5_readsNumber_9 rfl (lv_at hl 0 rfl) ?_
  refine r_if_eq (tgt := 73) hx hb (⟨by decide, by decide⟩) dX5_readsNumber_10 (by decide) (fun c_1 => ?_) (fun c_1 => ?_)
  · skip
    exact absurd c_1 (by decide)
  · skip
    refine lv_aload_n hx hb dX5_readsNumber_13 rfl (lv_at hl 3 rfl) ?_
    refine callVO (n := 0) (As := []) (rest := []) (wc := [(hm, .inr (5, [.ref m1, .ref m2, .ref m3, .int (iI ((pa : Nat) : Int)), .int (iI ((pb : Nat) : Int)), .ref m4, .int (iI ((cp : Nat) : Int)), .ref m5, .int (iI ((ty : Nat) : Int)), .ref m6, .int (iI ((nx : Nat) : Int)), .int (iI (fi)), .int (iI (se)), .int (iI ((le : Nat) : Int)), .ref m7, .int (iI (bp)), .ref m8])), (m1, .inl (cI, 516, .inl (rI (sF cn en ac cu co au er ki bs)))), (m5, .inl (cB, 80, .inl (rI (fun j => sby (sc j)))))]) S (m_here l D cI cB cZ cO hm m1 m2 m3 m4 m5 m6 m7 m8 pa pb cp ty nx fi se le bp cn en ac cu co au er ki bs sc (by first | assumption | (omega)) (by first | assumption | (omega)) (by first | assumption | (omega))) gX5_readsNumber_X5_here rfl ⟨rfl, rfl⟩ (by decide +kernel) ⟨Nat.le_of_ble_eq_true rfl, Nat.le_of_ble_eq_true rfl⟩ hE hP [0, 1, 2] rfl 5 0 rfl rfl rfl hl.1 rfl (Nat.le_of_ble_eq_true rfl) dX5_readsNumber_14 ⟨Nat.le_of_ble_eq_true rfl, Nat.le_of_ble_eq_true rfl⟩ ?_
    refine r_bipush hx hb dX5_readsNumber_17 (by decide) ?_
    refine r_bipush hx hb dX5_readsNumber_19 (by decide) ?_
    rw [show (48 : Int) = (48) from by omega]
    rw [show (57 : Int) = (57) from by omega]
    refine callSO (n := 3) (As := [.int (iI (hre sc ty nx)), .int (iI (48)), .int (iI (57))]) (rest := []) (wc := []) S (m_in l D cI cB cZ cO (hre sc ty nx) 48 57 (by first | assumption | (omega)) (by first | assumption | (omega)) (by first | assumption | (omega))) gX5_readsNumber_X5_in rfl ⟨rfl, rfl⟩ (by decide +kernel) ⟨Nat.le_of_ble_eq_true rfl, Nat.le_of_ble_eq_true rfl⟩ hE hP [] rfl rfl hl.1 rfl (Nat.le_of_ble_eq_true rfl) dX5_readsNumber_21 ⟨Nat.le_of_ble_eq_true rfl, Nat.le_of_ble_eq_true rfl⟩ ?_
    refine r_ifb_eq (tgt := 73) hx hb dX5_readsNumber_24 (by decide) (fun c_2 => ?_) (fun c_2 => ?_)
    · skip
      refine lv_aload_n hx hb dX5_readsNumber_73 rfl (lv_at hl 3 rfl) ?_
      refine va_get (D := D) (ci := 5) (v := .int (iI ((nx : Nat) : Int))) (C := RX5) (T := TX5) (N := 17) hx hb hts nX5_readsNumber_X5 hown hK hP 0 rfl rfl 10 (by decide) (hts _ kX5_readsNumber_143) (fun _ h9 => h9) rfl dX5_readsNumber_74 ?_
      refine lv_iload_n hx hb dX5_readsNumber_77 rfl (lv_at hl 2 rfl) ?_
      refine r_icmp_ne (tgt := 85) hx hb (by omega) (by omega) dX5_readsNumber_78 (by decide) (fun c_3 => ?_) (fun c_3 => ?_)
      · skip
        refine lv_iload_n hx hb dX5_readsNumber_85 rfl (lv_at hl 1 rfl) ?_
        exact r_iretX hx hb hr hlocks hP hD hS (nx, 0) (rfl) (⟨by (try dsimp only); omega, by (try dsimp only); omega⟩) rfl dX5_readsNumber_86
      · skip
        refine r_iconst hx hb dX5_readsNumber_81 ?_
        refine lv_goto (tgt := 86) hx hb dX5_readsNumber_82 (by decide) ?_
        exact r_iretX hx hb hr hlocks hP hD hS (nx, -1) (rfl) (⟨by (try dsimp only); omega, by (try dsimp only); omega⟩) rfl dX5_readsNumber_86
    · skip
      refine r_bipush hx hb dX5_readsNumber_27 (by decide) ?_
      refine lv_iload_n hx hb dX5_readsNumber_29 rfl (lv_at hl 1 rfl) ?_
      refine r_imul (v := ((10 * 0 : Nat) : Int)) hx hb (rfl) dX5_readsNumber_30 ?_
      refine lv_aload_n hx hb dX5_readsNumber_31 rfl (lv_at hl 3 rfl) ?_
      refine callVO (n := 0) (As := []) (rest := [.int (iI ((10 * 0 : Nat) : Int))]) (wc := [(hm, .inr (5, [.ref m1, .ref m2, .ref m3, .int (iI ((pa : Nat) : Int)), .int (iI ((pb : Nat) : Int)), .ref m4, .int (iI ((cp : Nat) : Int)), .ref m5, .int (iI ((ty : Nat) : Int)), .ref m6, .int (iI ((nx : Nat) : Int)), .int (iI (fi)), .int (iI (se)), .int (iI ((le : Nat) : Int)), .ref m7, .int (iI (bp)), .ref m8])), (m1, .inl (cI, 516, .inl (rI (sF cn en ac cu co au er ki bs)))), (m5, .inl (cB, 80, .inl (rI (fun j => sby (sc j)))))]) S (m_here l D cI cB cZ cO hm m1 m2 m3 m4 m5 m6 m7 m8 pa pb cp ty nx fi se le bp cn en ac cu co au er ki bs sc (by first | assumption | (omega)) (by first | assumption | (omega)) (by first | assumption | (omega))) gX5_readsNumber_X5_here rfl ⟨rfl, rfl⟩ (by decide +kernel) ⟨Nat.le_of_ble_eq_true rfl, Nat.le_of_ble_eq_true rfl⟩ hE hP [0, 1, 2] rfl 5 0 rfl rfl rfl hl.1 rfl (Nat.le_of_ble_eq_true rfl) dX5_readsNumber_32 ⟨Nat.le_of_ble_eq_true rfl, Nat.le_of_ble_eq_true rfl⟩ ?_
      refine r_iadd (v := (((10 * 0 : Nat) : Int) + (hre sc ty nx))) hx hb (rfl) dX5_readsNumber_35 ?_
      refine r_bipush hx hb dX5_readsNumber_36 (by decide) ?_
      refine r_isub (v := ((((10 * 0 : Nat) : Int) + (hre sc ty nx)) - 48)) hx hb (rfl) dX5_readsNumber_38 ?_
      refine lv_istore_n (lv' := [(2, .int (iI ((((10 * 0 : Nat) : Int) + (hre sc ty nx)) - 48))), (3, .int (iI 1)), (1, .int (iI ((nx : Nat) : Int))), (0, .ref hm)]) hx hb dX5_readsNumber_39 rfl hl (by decide) rfl (fun ls hl => ?_)
      refine lv_aload_n hx hb dX5_readsNumber_40 rfl (lv_at hl 3 rfl) ?_
      refine lv_dup hx hb dX5_readsNumber_41 rfl ?_
      refine va_get (D := D) (ci := 5) (v := .int (iI ((nx : Nat) : Int))) (C := RX5) (T := TX5) (N := 17) hx hb hts nX5_readsNumber_X5 hown hK hP 0 rfl rfl 10 (by decide) (hts _ kX5_readsNumber_143) (fun _ h9 => h9) rfl dX5_readsNumber_42 ?_
      refine r_iconst hx hb dX5_readsNumber_45 ?_
      refine r_iadd (v := ((nx + 1 : Nat) : Int)) hx hb (rfl) dX5_readsNumber_46 ?_
      refine va_put (D := D) (ci := 5) (v := .int (iI ((nx + 1 : Nat) : Int))) (ty := .int) (C := RX5) (T := TX5) (N := 17) hx hb hts nX5_readsNumber_X5 tyX5 tyX5_ok nmX5 hown hK hP hD hS 0 rfl rfl 10 (by decide) (hts _ kX5_readsNumber_143) (fun _ h9 => h9) rfl (by decide +kernel) rfl rfl (Nat.le_of_ble_eq_true rfl) dX5_readsNumber_47 (fun H locs hP hD hS => ?_)
      have hP : va_P D vwCl [(hm, .inr (5, [.ref m1, .ref m2, .ref m3, .int (iI ((pa : Nat) : Int)), .int (iI ((pb : Nat) : Int)), .ref m4, .int (iI ((cp : Nat) : Int)), .ref m5, .int (iI ((ty : Nat) : Int)), .ref m6, .int (iI ((nx + 1 : Nat) : Int)), .int (iI (fi)), .int (iI (se)), .int (iI ((le : Nat) : Int)), .ref m7, .int (iI (bp)), .ref m8])), (m1, .inl (cI, 516, .inl (rI (sF cn en ac cu co au er ki bs)))), (m5, .inl (cB, 80, .inl (rI (fun j => sby (sc j)))))] H := hP
      have hD : va_D A [(hm, .inr (5, [.ref m1, .ref m2, .ref m3, .int (iI ((pa : Nat) : Int)), .int (iI ((pb : Nat) : Int)), .ref m4, .int (iI ((cp : Nat) : Int)), .ref m5, .int (iI ((ty : Nat) : Int)), .ref m6, .int (iI ((nx + 1 : Nat) : Int)), .int (iI (fi)), .int (iI (se)), .int (iI ((le : Nat) : Int)), .ref m7, .int (iI (bp)), .ref m8])), (m1, .inl (cI, 516, .inl (rI (sF cn en ac cu co au er ki bs)))), (m5, .inl (cB, 80, .inl (rI (fun j => sby (sc j)))))] := hD
      refine lv_iload_n hx hb dX5_readsNumber_50 rfl (lv_at hl 0 rfl) ?_
      refine r_if_le (tgt := 68) hx hb (by omega) dX5_readsNumber_51 (by decide) (fun c_4 => ?_) (fun c_4 => ?_)
      · skip
        refine r_iconst hx hb dX5_readsNumber_68 ?_
        refine lv_istore_n (lv' := [(3, .int (iI 0)), (2, .int (iI ((((10 * 0 : Nat) : Int) + (hre sc ty nx)) - 48))), (1, .int (iI ((nx : Nat) : Int))), (0, .ref hm)]) hx hb dX5_readsNumber_69 rfl hl (by decide) rfl (fun ls hl => ?_)
        refine lv_goto (tgt := 9) hx hb dX5_readsNumber_70 (by decide) ?_
        refine lv_iload_n hx hb dX5_readsNumber_9 rfl (lv_at hl 0 rfl) ?_
        refine r_if_eq (tgt := 73) hx hb (⟨by decide, by decide⟩) dX5_readsNumber_10 (by decide) (fun c_5 => ?_) (fun c_5 => ?_)
        · skip
          refine lv_aload_n hx hb dX5_readsNumber_73 rfl (lv_at hl 3 rfl) ?_
          refine va_get (D := D) (ci := 5) (v := .int (iI ((nx + 1 : Nat) : Int))) (C := RX5) (T := TX5) (N := 17) hx hb hts nX5_readsNumber_X5 hown hK hP 0 rfl rfl 10 (by decide) (hts _ kX5_readsNumber_143) (fun _ h9 => h9) rfl dX5_readsNumber_74 ?_
          refine lv_iload_n hx hb dX5_readsNumber_77 rfl (lv_at hl 2 rfl) ?_
          refine r_icmp_ne (tgt := 85) hx hb (by omega) (by omega) dX5_readsNumber_78 (by decide) (fun c_6 => ?_) (fun c_6 => ?_)
          · skip
            refine lv_iload_n hx hb dX5_readsNumber_85 rfl (lv_at hl 1 rfl) ?_
            exact r_iretX hx hb hr hlocks hP hD hS (nx + 1, ((((10 * 0 : Nat) : Int) + (hre sc ty nx)) - 48)) (rfl) (⟨by (try dsimp only); omega, by (try dsimp only); omega⟩) rfl dX5_readsNumber_86
          · skip
            refine r_iconst hx hb dX5_readsNumber_81 ?_
            refine lv_goto (tgt := 86) hx hb dX5_readsNumber_82 (by decide) ?_
            exact r_iretX hx hb hr hlocks hP hD hS (nx + 1, -1) (rfl) (⟨by (try dsimp only); omega, by (try dsimp only); omega⟩) rfl dX5_readsNumber_86
        · skip
          exact absurd c_5 (by decide)
      · skip
        refine lv_aload_n hx hb dX5_readsNumber_54 rfl (lv_at hl 3 rfl) ?_
        refine va_get (D := D) (ci := 5) (v := .int (iI ((nx + 1 : Nat) : Int))) (C := RX5) (T := TX5) (N := 17) hx hb hts nX5_readsNumber_X5 hown hK hP 0 rfl rfl 10 (by decide) (hts _ kX5_readsNumber_143) (fun _ h9 => h9) rfl dX5_readsNumber_55 ?_
        refine lv_iload_n hx hb dX5_readsNumber_58 rfl (lv_at hl 2 rfl) ?_
        refine r_iconst hx hb dX5_readsNumber_59 ?_
        refine r_iadd (v := ((nx + 1 : Nat) : Int)) hx hb (rfl) dX5_readsNumber_60 ?_
        refine r_icmp_ne (tgt := 68) hx hb (by omega) (by omega) dX5_readsNumber_61 (by decide) (fun c_7 => ?_) (fun c_7 => ?_)
        · skip
          refine r_iconst hx hb dX5_readsNumber_68 ?_
          refine lv_istore_n (lv' := [(3, .int (iI 0)), (2, .int (iI ((((10 * 0 : Nat) : Int) + (hre sc ty nx)) - 48))), (1, .int (iI ((nx : Nat) : Int))), (0, .ref hm)]) hx hb dX5_readsNumber_69 rfl hl (by decide) rfl (fun ls hl => ?_)
          refine lv_goto (tgt := 9) hx hb dX5_readsNumber_70 (by decide) ?_
          refine lv_iload_n hx hb dX5_readsNumber_9 rfl (lv_at hl 0 rfl) ?_
          refine r_if_eq (tgt := 73) hx hb (⟨by decide, by decide⟩) dX5_readsNumber_10 (by decide) (fun c_8 => ?_) (fun c_8 => ?_)
          · skip
            refine lv_aload_n hx hb dX5_readsNumber_73 rfl (lv_at hl 3 rfl) ?_
            refine va_get (D := D) (ci := 5) (v := .int (iI ((nx + 1 : Nat) : Int))) (C := RX5) (T := TX5) (N := 17) hx hb hts nX5_readsNumber_X5 hown hK hP 0 rfl rfl 10 (by decide) (hts _ kX5_readsNumber_143) (fun _ h9 => h9) rfl dX5_readsNumber_74 ?_
            refine lv_iload_n hx hb dX5_readsNumber_77 rfl (lv_at hl 2 rfl) ?_
            refine r_icmp_ne (tgt := 85) hx hb (by omega) (by omega) dX5_readsNumber_78 (by decide) (fun c_9 => ?_) (fun c_9 => ?_)
            · skip
              refine lv_iload_n hx hb dX5_readsNumber_85 rfl (lv_at hl 1 rfl) ?_
              exact r_iretX hx hb hr hlocks hP hD hS (nx + 1, ((((10 * 0 : Nat) : Int) + (hre sc ty nx)) - 48)) (rfl) (⟨by (try dsimp only); omega, by (try dsimp only); omega⟩) rfl dX5_readsNumber_86
            · skip
              refine r_iconst hx hb dX5_readsNumber_81 ?_
              refine lv_goto (tgt := 86) hx hb dX5_readsNumber_82 (by decide) ?_
              exact r_iretX hx hb hr hlocks hP hD hS (nx + 1, -1) (rfl) (⟨by (try dsimp only); omega, by (try dsimp only); omega⟩) rfl dX5_readsNumber_86
          · skip
            exact absurd c_8 (by decide)
        · skip
          refine r_iconst hx hb dX5_readsNumber_64 ?_
          refine lv_goto (tgt := 69) hx hb dX5_readsNumber_65 (by decide) ?_
          refine lv_istore_n (lv' := [(3, .int (iI 1)), (2, .int (iI ((((10 * 0 : Nat) : Int) + (hre sc ty nx)) - 48))), (1, .int (iI ((nx : Nat) : Int))), (0, .ref hm)]) hx hb dX5_readsNumber_69 rfl hl (by decide) rfl (fun ls hl => ?_)
          refine lv_goto (tgt := 9) hx hb dX5_readsNumber_70 (by decide) ?_
          refine lv_iload_n hx hb dX5_readsNumber_9 rfl (lv_at hl 0 rfl) ?_
          refine r_if_eq (tgt := 73) hx hb (⟨by decide, by decide⟩) dX5_readsNumber_10 (by decide) (fun c_10 => ?_) (fun c_10 => ?_)
          · skip
            exact absurd c_10 (by decide)
          · skip
            refine lv_aload_n hx hb dX5_readsNumber_13 rfl (lv_at hl 3 rfl) ?_
            refine callVO (n := 0) (As := []) (rest := []) (wc := [(hm, .inr (5, [.ref m1, .ref m2, .ref m3, .int (iI ((pa : Nat) : Int)), .int (iI ((pb : Nat) : Int)), .ref m4, .int (iI ((cp : Nat) : Int)), .ref m5, .int (iI ((ty : Nat) : Int)), .ref m6, .int (iI ((nx + 1 : Nat) : Int)), .int (iI (fi)), .int (iI (se)), .int (iI ((le : Nat) : Int)), .ref m7, .int (iI (bp)), .ref m8])), (m1, .inl (cI, 516, .inl (rI (sF cn en ac cu co au er ki bs)))), (m5, .inl (cB, 80, .inl (rI (fun j => sby (sc j)))))]) S (m_here l D cI cB cZ cO hm m1 m2 m3 m4 m5 m6 m7 m8 pa pb cp ty (nx + 1) fi se le bp cn en ac cu co au er ki bs sc (by first | assumption | (omega)) (by first | assumption | (omega)) (by first | assumption | (omega))) gX5_readsNumber_X5_here rfl ⟨rfl, rfl⟩ (by decide +kernel) ⟨Nat.le_of_ble_eq_true rfl, Nat.le_of_ble_eq_true rfl⟩ hE hP [0, 1, 2] rfl 5 0 rfl rfl rfl hl.1 rfl (Nat.le_of_ble_eq_true rfl) dX5_readsNumber_14 ⟨Nat.le_of_ble_eq_true rfl, Nat.le_of_ble_eq_true rfl⟩ ?_
            refine r_bipush hx hb dX5_readsNumber_17 (by decide) ?_
            refine r_bipush hx hb dX5_readsNumber_19 (by decide) ?_
            rw [show (48 : Int) = (48) from by omega]
            rw [show (57 : Int) = (57) from by omega]
            refine callSO (n := 3) (As := [.int (iI (hre sc ty (nx + 1))), .int (iI (48)), .int (iI (57))]) (rest := []) (wc := []) S (m_in l D cI cB cZ cO (hre sc ty (nx + 1)) 48 57 (by first | assumption | (omega)) (by first | assumption | (omega)) (by first | assumption | (omega))) gX5_readsNumber_X5_in rfl ⟨rfl, rfl⟩ (by decide +kernel) ⟨Nat.le_of_ble_eq_true rfl, Nat.le_of_ble_eq_true rfl⟩ hE hP [] rfl rfl hl.1 rfl (Nat.le_of_ble_eq_true rfl) dX5_readsNumber_21 ⟨Nat.le_of_ble_eq_true rfl, Nat.le_of_ble_eq_true rfl⟩ ?_
            refine r_ifb_eq (tgt := 73) hx hb dX5_readsNumber_24 (by decide) (fun c_11 => ?_) (fun c_11 => ?_)
            · skip
              refine lv_aload_n hx hb dX5_readsNumber_73 rfl (lv_at hl 3 rfl) ?_
              refine va_get (D := D) (ci := 5) (v := .int (iI ((nx + 1 : Nat) : Int))) (C := RX5) (T := TX5) (N := 17) hx hb hts nX5_readsNumber_X5 hown hK hP 0 rfl rfl 10 (by decide) (hts _ kX5_readsNumber_143) (fun _ h9 => h9) rfl dX5_readsNumber_74 ?_
              refine lv_iload_n hx hb dX5_readsNumber_77 rfl (lv_at hl 2 rfl) ?_
              refine r_icmp_ne (tgt := 85) hx hb (by omega) (by omega) dX5_readsNumber_78 (by decide) (fun c_12 => ?_) (fun c_12 => ?_)
              · skip
                refine lv_iload_n hx hb dX5_readsNumber_85 rfl (lv_at hl 1 rfl) ?_
                exact r_iretX hx hb hr hlocks hP hD hS (nx + 1, ((((10 * 0 : Nat) : Int) + (hre sc ty nx)) - 48)) (rfl) (⟨by (try dsimp only); omega, by (try dsimp only); omega⟩) rfl dX5_readsNumber_86
              · skip
                refine r_iconst hx hb dX5_readsNumber_81 ?_
                refine lv_goto (tgt := 86) hx hb dX5_readsNumber_82 (by decide) ?_
                exact r_iretX hx hb hr hlocks hP hD hS (nx + 1, -1) (rfl) (⟨by (try dsimp only); omega, by (try dsimp only); omega⟩) rfl dX5_readsNumber_86
            · skip
              refine r_bipush hx hb dX5_readsNumber_27 (by decide) ?_
              refine lv_iload_n hx hb dX5_readsNumber_29 rfl (lv_at hl 1 rfl) ?_
              refine r_imul (v := (10 * ((((10 * 0 : Nat) : Int) + (hre sc ty nx)) - 48))) hx hb (rfl) dX5_readsNumber_30 ?_
              refine lv_aload_n hx hb dX5_readsNumber_31 rfl (lv_at hl 3 rfl) ?_
              refine callVO (n := 0) (As := []) (rest := [.int (iI (10 * ((((10 * 0 : Nat) : Int) + (hre sc ty nx)) - 48)))]) (wc := [(hm, .inr (5, [.ref m1, .ref m2, .ref m3, .int (iI ((pa : Nat) : Int)), .int (iI ((pb : Nat) : Int)), .ref m4, .int (iI ((cp : Nat) : Int)), .ref m5, .int (iI ((ty : Nat) : Int)), .ref m6, .int (iI ((nx + 1 : Nat) : Int)), .int (iI (fi)), .int (iI (se)), .int (iI ((le : Nat) : Int)), .ref m7, .int (iI (bp)), .ref m8])), (m1, .inl (cI, 516, .inl (rI (sF cn en ac cu co au er ki bs)))), (m5, .inl (cB, 80, .inl (rI (fun j => sby (sc j)))))]) S (m_here l D cI cB cZ cO hm m1 m2 m3 m4 m5 m6 m7 m8 pa pb cp ty (nx + 1) fi se le bp cn en ac cu co au er ki bs sc (by first | assumption | (omega)) (by first | assumption | (omega)) (by first | assumption | (omega))) gX5_readsNumber_X5_here rfl ⟨rfl, rfl⟩ (by decide +kernel) ⟨Nat.le_of_ble_eq_true rfl, Nat.le_of_ble_eq_true rfl⟩ hE hP [0, 1, 2] rfl 5 0 rfl rfl rfl hl.1 rfl (Nat.le_of_ble_eq_true rfl) dX5_readsNumber_32 ⟨Nat.le_of_ble_eq_true rfl, Nat.le_of_ble_eq_true rfl⟩ ?_
              refine r_iadd (v := ((10 * ((((10 * 0 : Nat) : Int) + (hre sc ty nx)) - 48)) + (hre sc ty (nx + 1)))) hx hb (rfl) dX5_readsNumber_35 ?_
              refine r_bipush hx hb dX5_readsNumber_36 (by decide) ?_
              refine r_isub (v := (((10 * ((((10 * 0 : Nat) : Int) + (hre sc ty nx)) - 48)) + (hre sc ty (nx + 1))) - 48)) hx hb (rfl) dX5_readsNumber_38 ?_
              refine lv_istore_n (lv' := [(2, .int (iI (((10 * ((((10 * 0 : Nat) : Int) + (hre sc ty nx)) - 48)) + (hre sc ty (nx + 1))) - 48))), (3, .int (iI 1)), (1, .int (iI ((nx : Nat) : Int))), (0, .ref hm)]) hx hb dX5_readsNumber_39 rfl hl (by decide) rfl (fun ls hl => ?_)
              refine lv_aload_n hx hb dX5_readsNumber_40 rfl (lv_at hl 3 rfl) ?_
              refine lv_dup hx hb dX5_readsNumber_41 rfl ?_
              refine va_get (D := D) (ci := 5) (v := .int (iI ((nx + 1 : Nat) : Int))) (C := RX5) (T := TX5) (N := 17) hx hb hts nX5_readsNumber_X5 hown hK hP 0 rfl rfl 10 (by decide) (hts _ kX5_readsNumber_143) (fun _ h9 => h9) rfl dX5_readsNumber_42 ?_
              refine r_iconst hx hb dX5_readsNumber_45 ?_
              refine r_iadd (v := ((nx + 2 : Nat) : Int)) hx hb (by omega) dX5_readsNumber_46 ?_
              refine va_put (D := D) (ci := 5) (v := .int (iI ((nx + 2 : Nat) : Int))) (ty := .int) (C := RX5) (T := TX5) (N := 17) hx hb hts nX5_readsNumber_X5 tyX5 tyX5_ok nmX5 hown hK hP hD hS 0 rfl rfl 10 (by decide) (hts _ kX5_readsNumber_143) (fun _ h9 => h9) rfl (by decide +kernel) rfl rfl (Nat.le_of_ble_eq_true rfl) dX5_readsNumber_47 (fun H locs hP hD hS => ?_)
              have hP : va_P D vwCl [(hm, .inr (5, [.ref m1, .ref m2, .ref m3, .int (iI ((pa : Nat) : Int)), .int (iI ((pb : Nat) : Int)), .ref m4, .int (iI ((cp : Nat) : Int)), .ref m5, .int (iI ((ty : Nat) : Int)), .ref m6, .int (iI ((nx + 2 : Nat) : Int)), .int (iI (fi)), .int (iI (se)), .int (iI ((le : Nat) : Int)), .ref m7, .int (iI (bp)), .ref m8])), (m1, .inl (cI, 516, .inl (rI (sF cn en ac cu co au er ki bs)))), (m5, .inl (cB, 80, .inl (rI (fun j => sby (sc j)))))] H := hP
              have hD : va_D A [(hm, .inr (5, [.ref m1, .ref m2, .ref m3, .int (iI ((pa : Nat) : Int)), .int (iI ((pb : Nat) : Int)), .ref m4, .int (iI ((cp : Nat) : Int)), .ref m5, .int (iI ((ty : Nat) : Int)), .ref m6, .int (iI ((nx + 2 : Nat) : Int)), .int (iI (fi)), .int (iI (se)), .int (iI ((le : Nat) : Int)), .ref m7, .int (iI (bp)), .ref m8])), (m1, .inl (cI, 516, .inl (rI (sF cn en ac cu co au er ki bs)))), (m5, .inl (cB, 80, .inl (rI (fun j => sby (sc j)))))] := hD
              refine lv_iload_n hx hb dX5_readsNumber_50 rfl (lv_at hl 0 rfl) ?_
              refine r_if_le (tgt := 68) hx hb (by omega) dX5_readsNumber_51 (by decide) (fun c_13 => ?_) (fun c_13 => ?_)
              · skip
                refine r_iconst hx hb dX5_readsNumber_68 ?_
                refine lv_istore_n (lv' := [(3, .int (iI 0)), (2, .int (iI (((10 * ((((10 * 0 : Nat) : Int) + (hre sc ty nx)) - 48)) + (hre sc ty (nx + 1))) - 48))), (1, .int (iI ((nx : Nat) : Int))), (0, .ref hm)]) hx hb dX5_readsNumber_69 rfl hl (by decide) rfl (fun ls hl => ?_)
                refine lv_goto (tgt := 9) hx hb dX5_readsNumber_70 (by decide) ?_
                refine lv_iload_n hx hb dX5_readsNumber_9 rfl (lv_at hl 0 rfl) ?_
                refine r_if_eq (tgt := 73) hx hb (⟨by decide, by decide⟩) dX5_readsNumber_10 (by decide) (fun c_14 => ?_) (fun c_14 => ?_)
                · skip
                  refine lv_aload_n hx hb dX5_readsNumber_73 rfl (lv_at hl 3 rfl) ?_
                  refine va_get (D := D) (ci := 5) (v := .int (iI ((nx + 2 : Nat) : Int))) (C := RX5) (T := TX5) (N := 17) hx hb hts nX5_readsNumber_X5 hown hK hP 0 rfl rfl 10 (by decide) (hts _ kX5_readsNumber_143) (fun _ h9 => h9) rfl dX5_readsNumber_74 ?_
                  refine lv_iload_n hx hb dX5_readsNumber_77 rfl (lv_at hl 2 rfl) ?_
                  refine r_icmp_ne (tgt := 85) hx hb (by omega) (by omega) dX5_readsNumber_78 (by decide) (fun c_15 => ?_) (fun c_15 => ?_)
                  · skip
                    refine lv_iload_n hx hb dX5_readsNumber_85 rfl (lv_at hl 1 rfl) ?_
                    exact r_iretX hx hb hr hlocks hP hD hS (nx + 2, (((10 * ((((10 * 0 : Nat) : Int) + (hre sc ty nx)) - 48)) + (hre sc ty (nx + 1))) - 48)) (rfl) (⟨by (try dsimp only); omega, by (try dsimp only); omega⟩) rfl dX5_readsNumber_86
                  · skip
                    refine r_iconst hx hb dX5_readsNumber_81 ?_
                    refine lv_goto (tgt := 86) hx hb dX5_readsNumber_82 (by decide) ?_
                    exact r_iretX hx hb hr hlocks hP hD hS (nx + 2, -1) (rfl) (⟨by (try dsimp only); omega, by (try dsimp only); omega⟩) rfl dX5_readsNumber_86
                · skip
                  exact absurd c_14 (by decide)
              · skip
                refine lv_aload_n hx hb dX5_readsNumber_54 rfl (lv_at hl 3 rfl) ?_
                refine va_get (D := D) (ci := 5) (v := .int (iI ((nx + 2 : Nat) : Int))) (C := RX5) (T := TX5) (N := 17) hx hb hts nX5_readsNumber_X5 hown hK hP 0 rfl rfl 10 (by decide) (hts _ kX5_readsNumber_143) (fun _ h9 => h9) rfl dX5_readsNumber_55 ?_
                refine lv_iload_n hx hb dX5_readsNumber_58 rfl (lv_at hl 2 rfl) ?_
                refine r_iconst hx hb dX5_readsNumber_59 ?_
                refine r_iadd (v := ((nx + 1 : Nat) : Int)) hx hb (rfl) dX5_readsNumber_60 ?_
                refine r_icmp_ne (tgt := 68) hx hb (by omega) (by omega) dX5_readsNumber_61 (by decide) (fun c_16 => ?_) (fun c_16 => ?_)
                · skip
                  refine r_iconst hx hb dX5_readsNumber_68 ?_
                  refine lv_istore_n (lv' := [(3, .int (iI 0)), (2, .int (iI (((10 * ((((10 * 0 : Nat) : Int) + (hre sc ty nx)) - 48)) + (hre sc ty (nx + 1))) - 48))), (1, .int (iI ((nx : Nat) : Int))), (0, .ref hm)]) hx hb dX5_readsNumber_69 rfl hl (by decide) rfl (fun ls hl => ?_)
                  refine lv_goto (tgt := 9) hx hb dX5_readsNumber_70 (by decide) ?_
                  refine lv_iload_n hx hb dX5_readsNumber_9 rfl (lv_at hl 0 rfl) ?_
                  refine r_if_eq (tgt := 73) hx hb (⟨by decide, by decide⟩) dX5_readsNumber_10 (by decide) (fun c_17 => ?_) (fun c_17 => ?_)
                  · skip
                    refine lv_aload_n hx hb dX5_readsNumber_73 rfl (lv_at hl 3 rfl) ?_
                    refine va_get (D := D) (ci := 5) (v := .int (iI ((nx + 2 : Nat) : Int))) (C := RX5) (T := TX5) (N := 17) hx hb hts nX5_readsNumber_X5 hown hK hP 0 rfl rfl 10 (by decide) (hts _ kX5_readsNumber_143) (fun _ h9 => h9) rfl dX5_readsNumber_74 ?_
                    refine lv_iload_n hx hb dX5_readsNumber_77 rfl (lv_at hl 2 rfl) ?_
                    refine r_icmp_ne (tgt := 85) hx hb (by omega) (by omega) dX5_readsNumber_78 (by decide) (fun c_18 => ?_) (fun c_18 => ?_)
                    · skip
                      refine lv_iload_n hx hb dX5_readsNumber_85 rfl (lv_at hl 1 rfl) ?_
                      exact r_iretX hx hb hr hlocks hP hD hS (nx + 2, (((10 * ((((10 * 0 : Nat) : Int) + (hre sc ty nx)) - 48)) + (hre sc ty (nx + 1))) - 48)) (rfl) (⟨by (try dsimp only); omega, by (try dsimp only); omega⟩) rfl dX5_readsNumber_86
                    · skip
                      refine r_iconst hx hb dX5_readsNumber_81 ?_
                      refine lv_goto (tgt := 86) hx hb dX5_readsNumber_82 (by decide) ?_
                      exact r_iretX hx hb hr hlocks hP hD hS (nx + 2, -1) (rfl) (⟨by (try dsimp only); omega, by (try dsimp only); omega⟩) rfl dX5_readsNumber_86
                  · skip
                    exact absurd c_17 (by decide)
                · skip
                  refine r_iconst hx hb dX5_readsNumber_64 ?_
                  exfalso; omega

theorem kX5_readsCommand_143 : Cond.fieldLink RX5 143 "PricedUndoModel" "next" "I" ∈ wsX5_readsCommand := List.mem_of_getElem? (i := 1) (by decide +kernel)
theorem nX5_readsCommand_X5 : ∀ w ∈ u_ws RX5 TX5 17, w ∈ wsX5_readsCommand := in_lay 23 (by decide +kernel)
theorem kX5_readsCommand_152 : Cond.fieldLink RX5 152 "PricedUndoModel" "first" "I" ∈ wsX5_readsCommand := List.mem_of_getElem? (i := 2) (by decide +kernel)
theorem kX5_readsCommand_161 : Cond.fieldLink RX5 161 "PricedUndoModel" "letters" "I" ∈ wsX5_readsCommand := List.mem_of_getElem? (i := 4) (by decide +kernel)
theorem kX5_readsCommand_158 : Cond.fieldLink RX5 158 "PricedUndoModel" "second" "I" ∈ wsX5_readsCommand := List.mem_of_getElem? (i := 3) (by decide +kernel)
set_option maxHeartbeats 4000000 in
set_option maxRecDepth 100000 in
theorem m_readsCommand (l : Launch) (D : va_G) (cI cB cZ cO : ClassId) (sz : Nat) (hm : Nat) (m1 : Nat) (m2 : Nat) (m3 : Nat) (m4 : Nat) (m5 : Nat) (m6 : Nat) (m7 : Nat) (m8 : Nat) (pa : Nat) (pb : Nat) (cp : Nat) (ty : Nat) (nx : Nat) (fi : Int) (se : Int) (le : Nat) (bp : Int) (cn : Nat) (en : Nat) (ac : Nat) (cu : Nat) (co : Nat → Nat) (au : Nat → Int) (er : Nat → Nat) (ki : Nat → Nat) (bs : Nat → Int) (sc : Nat → Nat) (hty : ty ≤ 80) (hsc : ∀ k, sc k < 256) (hnx : nx < ty) : Met l yX5_readsCommand wsX5_readsCommand ({ frames := 2, cells := 0, slots := 0, locals := 45 }) (va_Pc [.ref hm] (RW D cI cB cZ cO sz [(hm, .inr (5, [.ref m1, .ref m2, .ref m3, .int (iI ((pa : Nat) : Int)), .int (iI ((pb : Nat) : Int)), .ref m4, .int (iI ((cp : Nat) : Int)), .ref m5, .int (iI ((ty : Nat) : Int)), .ref m6, .int (iI ((nx : Nat) : Int)), .int (iI (fi)), .int (iI (se)), .int (iI ((le : Nat) : Int)), .ref m7, .int (iI (bp)), .ref m8])), (m1, .inl (cI, 516, .inl (rI (sF cn en ac cu co au er ki bs)))), (m5, .inl (cB, 80, .inl (rI (fun j => sby (sc j)))))])) (QX D (S := Nat × Int × Int × Nat) (fun u => some (.int (iI (bI (cK (tx sc ty) nx = 1))))) (fun u => (u.1 = cP (tx sc ty) nx) ∧ (cK (tx sc ty) nx = 1 → u.2.1 = ((nV (tx sc ty) (nx + 1) : Nat) : Int)) ∧ (cK (tx sc ty) nx = 1 → tx sc ty nx = 45 → u.2.2.1 = ((nV (tx sc ty) (nE (tx sc ty) (nx + 1) + 1) : Nat) : Int)) ∧ (cK (tx sc ty) nx = 1 → tx sc ty nx = 43 → u.2.2.1 = ((lts (tx sc ty) (nE (tx sc ty) (nx + 1) + 1) : Nat) : Int) ∧ u.2.2.2 = nE (tx sc ty) (nx + 1) + 1)) (fun u => [(hm, .inr (5, [.ref m1, .ref m2, .ref m3, .int (iI ((pa : Nat) : Int)), .int (iI ((pb : Nat) : Int)), .ref m4, .int (iI ((cp : Nat) : Int)), .ref m5, .int (iI ((ty : Nat) : Int)), .ref m6, .int (iI ((u.1 : Nat) : Int)), .int (iI (u.2.1)), .int (iI (u.2.2.1)), .int (iI ((u.2.2.2 : Nat) : Int)), .ref m7, .int (iI (bp)), .ref m8])), (m1, .inl (cI, 516, .inl (rI (sF cn en ac cu co au er ki bs)))), (m5, .inl (cB, 80, .inl (rI (fun j => sby (sc j)))))]) (va_A [(hm, .inr (5, [.ref m1, .ref m2, .ref m3, .int (iI ((pa : Nat) : Int)), .int (iI ((pb : Nat) : Int)), .ref m4, .int (iI ((cp : Nat) : Int)), .ref m5, .int (iI ((ty : Nat) : Int)), .ref m6, .int (iI ((nx : Nat) : Int)), .int (iI (fi)), .int (iI (se)), .int (iI ((le : Nat) : Int)), .ref m7, .int (iI (bp)), .ref m8])), (m1, .inl (cI, 516, .inl (rI (sF cn en ac cu co au er ki bs)))), (m5, .inl (cB, 80, .inl (rI (fun j => sby (sc j)))))] sz)) 0 0 (va_A [(hm, .inr (5, [.ref m1, .ref m2, .ref m3, .int (iI ((pa : Nat) : Int)), .int (iI ((pb : Nat) : Int)), .ref m4, .int (iI ((cp : Nat) : Int)), .ref m5, .int (iI ((ty : Nat) : Int)), .ref m6, .int (iI ((nx : Nat) : Int)), .int (iI (fi)), .int (iI (se)), .int (iI ((le : Nat) : Int)), .ref m7, .int (iI (bp)), .ref m8])), (m1, .inl (cI, 516, .inl (rI (sF cn en ac cu co au er ki bs)))), (m5, .inl (cB, 80, .inl (rI (fun j => sby (sc j)))))] sz) := by
  refine startW (cc := cX5_readsCommand) (maxL := 2) (ret := (some .boolean)) (by decide) rfl (Nat.le_of_ble_eq_true rfl) ?_
  intro p e s m below meth c S hr hlocks hE hP A hD hA hS ls hl
  have hx := S.1
  have hb := S.2.1
  have hown := S.2.2.2.1
  have hts := S.2.2.2.2
  have hK := hE.1
  have hl : lv_has ls 2 [(0, .ref hm)] := hl
  have htx := @hre_tx sc ty (nx)
  have hsp := hsc (nx)
  have htx1 := @hre_tx sc ty (nx + 1)
  have hsp1 := hsc (nx + 1)
  have hne := nE_f (tx sc ty) (nx + 1)
  refine lv_aload_n hx hb dX5_readsCommand_0 rfl (lv_at hl 0 rfl) ?_
  refine callVO (n := 0) (As := []) (rest := []) (wc := [(hm, .inr (5, [.ref m1, .ref m2, .ref m3, .int (iI ((pa : Nat) : Int)), .int (iI ((pb : Nat) : Int)), .ref m4, .int (iI ((cp : Nat) : Int)), .ref m5, .int (iI ((ty : Nat) : Int)), .ref m6, .int (iI ((nx : Nat) : Int)), .int (iI (fi)), .int (iI (se)), .int (iI ((le : Nat) : Int)), .ref m7, .int (iI (bp)), .ref m8])), (m1, .inl (cI, 516, .inl (rI (sF cn en ac cu co au er ki bs)))), (m5, .inl (cB, 80, .inl (rI (fun j => sby (sc j)))))]) S (m_here l D cI cB cZ cO hm m1 m2 m3 m4 m5 m6 m7 m8 pa pb cp ty nx fi se le bp cn en ac cu co au er ki bs sc (by first | assumption | (omega)) (by first | assumption | (omega)) (by first | assumption | (omega))) gX5_readsCommand_X5_here rfl ⟨rfl, rfl⟩ (by decide +kernel) ⟨Nat.le_of_ble_eq_true rfl, Nat.le_of_ble_eq_true rfl⟩ hE hP [0, 1, 2] rfl 5 0 rfl rfl rfl hl.1 rfl (Nat.le_of_ble_eq_true rfl) dX5_readsCommand_1 ⟨Nat.le_of_ble_eq_true rfl, Nat.le_of_ble_eq_true rfl⟩ ?_
  rw [show hre sc ty nx = ((tx sc ty nx : Nat) : Int) from by omega]
  refine lv_istore_n (lv' := [(1, .int (iI ((tx sc ty nx : Nat) : Int))), (0, .ref hm)]) hx hb dX5_readsCommand_4 rfl hl (by decide) rfl (fun ls hl => ?_)
  have join_37 : ∀ (ls : Array Slot), (tx sc ty nx = 43 ∨ tx sc ty nx = 45 ∨ tx sc ty nx = 60 ∨ tx sc ty nx = 62 ∨ tx sc ty nx = 64) → lv_has ls 2 [(0, .ref hm), (1, .int (iI ((tx sc ty nx : Nat) : Int)))] → W p l e ({ frames := 2, cells := 0, slots := 0, locals := 45 }) s m ([.ref hm] : List Value).toArray below meth c s.heap [] 0 0 (MQ below (QX D (S := Nat × Int × Int × Nat) (fun u => some (.int (iI (bI (cK (tx sc ty) nx = 1))))) (fun u => (u.1 = cP (tx sc ty) nx) ∧ (cK (tx sc ty) nx = 1 → u.2.1 = ((nV (tx sc ty) (nx + 1) : Nat) : Int)) ∧ (cK (tx sc ty) nx = 1 → tx sc ty nx = 45 → u.2.2.1 = ((nV (tx sc ty) (nE (tx sc ty) (nx + 1) + 1) : Nat) : Int)) ∧ (cK (tx sc ty) nx = 1 → tx sc ty nx = 43 → u.2.2.1 = ((lts (tx sc ty) (nE (tx sc ty) (nx + 1) + 1) : Nat) : Int) ∧ u.2.2.2 = nE (tx sc ty) (nx + 1) + 1)) (fun u => [(hm, .inr (5, [.ref m1, .ref m2, .ref m3, .int (iI ((pa : Nat) : Int)), .int (iI ((pb : Nat) : Int)), .ref m4, .int (iI ((cp : Nat) : Int)), .ref m5, .int (iI ((ty : Nat) : Int)), .ref m6, .int (iI ((u.1 : Nat) : Int)), .int (iI (u.2.1)), .int (iI (u.2.2.1)), .int (iI ((u.2.2.2 : Nat) : Int)), .ref m7, .int (iI (bp)), .ref m8])), (m1, .inl (cI, 516, .inl (rI (sF cn en ac cu co au er ki bs)))), (m5, .inl (cB, 80, .inl (rI (fun j => sby (sc j)))))]) A) ([.ref hm] : List Value).toArray s 0 0 A) (F0 m 37 ls []) := by
    intro ls hsg hl
    refine lv_aload_n hx hb dX5_readsCommand_37 rfl (lv_at hl 0 rfl) ?_
    refine lv_dup hx hb dX5_readsCommand_38 rfl ?_
    refine va_get (D := D) (ci := 5) (v := .int (iI ((nx : Nat) : Int))) (C := RX5) (T := TX5) (N := 17) hx hb hts nX5_readsCommand_X5 hown hK hP 0 rfl rfl 10 (by decide) (hts _ kX5_readsCommand_143) (fun _ h9 => h9) rfl dX5_readsCommand_39 ?_
    refine r_iconst hx hb dX5_readsCommand_42 ?_
    refine r_iadd (v := ((nx + 1 : Nat) : Int)) hx hb (rfl) dX5_readsCommand_43 ?_
    refine va_put (D := D) (ci := 5) (v := .int (iI ((nx + 1 : Nat) : Int))) (ty := .int) (C := RX5) (T := TX5) (N := 17) hx hb hts nX5_readsCommand_X5 tyX5 tyX5_ok nmX5 hown hK hP hD hS 0 rfl rfl 10 (by decide) (hts _ kX5_readsCommand_143) (fun _ h9 => h9) rfl (by decide +kernel) rfl rfl (Nat.le_of_ble_eq_true rfl) dX5_readsCommand_44 (fun H locs hP hD hS => ?_)
    have hP : va_P D vwCl [(hm, .inr (5, [.ref m1, .ref m2, .ref m3, .int (iI ((pa : Nat) : Int)), .int (iI ((pb : Nat) : Int)), .ref m4, .int (iI ((cp : Nat) : Int)), .ref m5, .int (iI ((ty : Nat) : Int)), .ref m6, .int (iI ((nx + 1 : Nat) : Int)), .int (iI (fi)), .int (iI (se)), .int (iI ((le : Nat) : Int)), .ref m7, .int (iI (bp)), .ref m8])), (m1, .inl (cI, 516, .inl (rI (sF cn en ac cu co au er ki bs)))), (m5, .inl (cB, 80, .inl (rI (fun j => sby (sc j)))))] H := hP
    have hD : va_D A [(hm, .inr (5, [.ref m1, .ref m2, .ref m3, .int (iI ((pa : Nat) : Int)), .int (iI ((pb : Nat) : Int)), .ref m4, .int (iI ((cp : Nat) : Int)), .ref m5, .int (iI ((ty : Nat) : Int)), .ref m6, .int (iI ((nx + 1 : Nat) : Int)), .int (iI (fi)), .int (iI (se)), .int (iI ((le : Nat) : Int)), .ref m7, .int (iI (bp)), .ref m8])), (m1, .inl (cI, 516, .inl (rI (sF cn en ac cu co au er ki bs)))), (m5, .inl (cB, 80, .inl (rI (fun j => sby (sc j)))))] := hD
    refine lv_aload_n hx hb dX5_readsCommand_47 rfl (lv_at hl 0 rfl) ?_
    refine lv_aload_n hx hb dX5_readsCommand_48 rfl (lv_at hl 0 rfl) ?_
    refine callVX (n := 0) (As := []) (rest := [.ref hm]) (wc := [(hm, .inr (5, [.ref m1, .ref m2, .ref m3, .int (iI ((pa : Nat) : Int)), .int (iI ((pb : Nat) : Int)), .ref m4, .int (iI ((cp : Nat) : Int)), .ref m5, .int (iI ((ty : Nat) : Int)), .ref m6, .int (iI ((nx + 1 : Nat) : Int)), .int (iI (fi)), .int (iI (se)), .int (iI ((le : Nat) : Int)), .ref m7, .int (iI (bp)), .ref m8])), (m1, .inl (cI, 516, .inl (rI (sF cn en ac cu co au er ki bs)))), (m5, .inl (cB, 80, .inl (rI (fun j => sby (sc j)))))]) (wr := []) (ws2 := fun u => [(hm, .inr (5, [.ref m1, .ref m2, .ref m3, .int (iI ((pa : Nat) : Int)), .int (iI ((pb : Nat) : Int)), .ref m4, .int (iI ((cp : Nat) : Int)), .ref m5, .int (iI ((ty : Nat) : Int)), .ref m6, .int (iI ((u.1 : Nat) : Int)), .int (iI (fi)), .int (iI (se)), .int (iI ((le : Nat) : Int)), .ref m7, .int (iI (bp)), .ref m8])), (m1, .inl (cI, 516, .inl (rI (sF cn en ac cu co au er ki bs)))), (m5, .inl (cB, 80, .inl (rI (fun j => sby (sc j)))))]) S hE hP hD hS hA (m_readsNumber l D cI cB cZ cO H.size hm m1 m2 m3 m4 m5 m6 m7 m8 pa pb cp ty (nx + 1) fi se le bp cn en ac cu co au er ki bs sc (by first | assumption | (omega)) (by first | assumption | (omega)) (by first | assumption | (omega))) gX5_readsCommand_X5_readsNumber rfl ⟨rfl, rfl⟩ (by decide +kernel) ⟨Nat.le_of_ble_eq_true rfl, Nat.le_of_ble_eq_true rfl⟩ [0, 1, 2] [] [0, 1, 2] rfl (by decide) rfl (by decide) (by decide) (by decide) (fun u => rfl) 5 0 rfl rfl rfl hl.1 rfl (Nat.le_of_ble_eq_true rfl) dX5_readsCommand_49 ⟨Nat.le_of_ble_eq_true rfl, Nat.le_of_ble_eq_true rfl⟩ (fun u u49p H locs hP hD hS => ?_)
    obtain ⟨nx2_u49, vn_u49⟩ := u
    obtain ⟨hny_u49, hnn_u49⟩ := u49p
    have hny_u49 : (48 ≤ tx sc ty (nx + 1) ∧ tx sc ty (nx + 1) ≤ 57) → nx2_u49 = nE (tx sc ty) (nx + 1) ∧ vn_u49 = ((nV (tx sc ty) (nx + 1) : Nat) : Int) := hny_u49
    have hnn_u49 : ¬ (48 ≤ tx sc ty (nx + 1) ∧ tx sc ty (nx + 1) ≤ 57) → nx2_u49 = (nx + 1) ∧ vn_u49 = -1 := hnn_u49
    have hP : va_P D vwCl [(hm, .inr (5, [.ref m1, .ref m2, .ref m3, .int (iI ((pa : Nat) : Int)), .int (iI ((pb : Nat) : Int)), .ref m4, .int (iI ((cp : Nat) : Int)), .ref m5, .int (iI ((ty : Nat) : Int)), .ref m6, .int (iI ((nx2_u49 : Nat) : Int)), .int (iI (fi)), .int (iI (se)), .int (iI ((le : Nat) : Int)), .ref m7, .int (iI (bp)), .ref m8])), (m1, .inl (cI, 516, .inl (rI (sF cn en ac cu co au er ki bs)))), (m5, .inl (cB, 80, .inl (rI (fun j => sby (sc j)))))] H := hP
    have hD : va_D A [(hm, .inr (5, [.ref m1, .ref m2, .ref m3, .int (iI ((pa : Nat) : Int)), .int (iI ((pb : Nat) : Int)), .ref m4, .int (iI ((cp : Nat) : Int)), .ref m5, .int (iI ((ty : Nat) : Int)), .ref m6, .int (iI ((nx2_u49 : Nat) : Int)), .int (iI (fi)), .int (iI (se)), .int (iI ((le : Nat) : Int)), .ref m7, .int (iI (bp)), .ref m8])), (m1, .inl (cI, 516, .inl (rI (sF cn en ac cu co au er ki bs)))), (m5, .inl (cB, 80, .inl (rI (fun j => sby (sc j)))))] := hD
    refine W.eq (g2 := F0 m 52 ls [.int (iI (vn_u49)), .ref hm]) rfl ?_
    refine va_put (D := D) (ci := 5) (v := .int (iI (vn_u49))) (ty := .int) (C := RX5) (T := TX5) (N := 17) hx hb hts nX5_readsCommand_X5 tyX5 tyX5_ok nmX5 hown hK hP hD hS 0 rfl rfl 11 (by decide) (hts _ kX5_readsCommand_152) (fun _ h9 => h9) rfl (by decide +kernel) rfl rfl (Nat.le_of_ble_eq_true rfl) dX5_readsCommand_52 (fun H locs hP hD hS => ?_)
    have hP : va_P D vwCl [(hm, .inr (5, [.ref m1, .ref m2, .ref m3, .int (iI ((pa : Nat) : Int)), .int (iI ((pb : Nat) : Int)), .ref m4, .int (iI ((cp : Nat) : Int)), .ref m5, .int (iI ((ty : Nat) : Int)), .ref m6, .int (iI ((nx2_u49 : Nat) : Int)), .int (iI (vn_u49)), .int (iI (se)), .int (iI ((le : Nat) : Int)), .ref m7, .int (iI (bp)), .ref m8])), (m1, .inl (cI, 516, .inl (rI (sF cn en ac cu co au er ki bs)))), (m5, .inl (cB, 80, .inl (rI (fun j => sby (sc j)))))] H := hP
    have hD : va_D A [(hm, .inr (5, [.ref m1, .ref m2, .ref m3, .int (iI ((pa : Nat) : Int)), .int (iI ((pb : Nat) : Int)), .ref m4, .int (iI ((cp : Nat) : Int)), .ref m5, .int (iI ((ty : Nat) : Int)), .ref m6, .int (iI ((nx2_u49 : Nat) : Int)), .int (iI (vn_u49)), .int (iI (se)), .int (iI ((le : Nat) : Int)), .ref m7, .int (iI (bp)), .ref m8])), (m1, .inl (cI, 516, .inl (rI (sF cn en ac cu co au er ki bs)))), (m5, .inl (cB, 80, .inl (rI (fun j => sby (sc j)))))] := hD
    refine lv_aload_n hx hb dX5_readsCommand_55 rfl (lv_at hl 0 rfl) ?_
    refine va_get (D := D) (ci := 5) (v := .int (iI (vn_u49))) (C := RX5) (T := TX5) (N := 17) hx hb hts nX5_readsCommand_X5 hown hK hP 0 rfl rfl 11 (by decide) (hts _ kX5_readsCommand_152) (fun _ h9 => h9) rfl dX5_readsCommand_56 ?_
    refine r_if_ge (tgt := 64) hx hb (by omega) dX5_readsCommand_59 (by decide) (fun c_1 => ?_) (fun c_1 => ?_)
    · skip
      have hdg : 48 ≤ tx sc ty (nx + 1) ∧ tx sc ty (nx + 1) ≤ 57 := by omega
      obtain rfl : nx2_u49 = nE (tx sc ty) (nx + 1) := by omega
      refine lv_iload_n hx hb dX5_readsCommand_64 rfl (lv_at hl 1 rfl) ?_
      refine r_bipush hx hb dX5_readsCommand_65 (by decide) ?_
      refine r_icmp_ne (tgt := 98) hx hb (by omega) (⟨by decide, by decide⟩) dX5_readsCommand_67 (by decide) (fun c_2 => ?_) (fun c_2 => ?_)
      · skip
        refine lv_iload_n hx hb dX5_readsCommand_98 rfl (lv_at hl 1 rfl) ?_
        refine r_bipush hx hb dX5_readsCommand_99 (by decide) ?_
        refine r_icmp_ne (tgt := 186) hx hb (by omega) (⟨by decide, by decide⟩) dX5_readsCommand_101 (by decide) (fun c_3 => ?_) (fun c_3 => ?_)
        · skip
          have hcr := @cR_o (tx sc ty) nx (by omega) hdg
          refine lv_aload_n hx hb dX5_readsCommand_186 rfl (lv_at hl 0 rfl) ?_
          refine r_bipush hx hb dX5_readsCommand_187 (by decide) ?_
          refine callVX (n := 1) (As := [.int (iI 59)]) (rest := []) (wc := [(hm, .inr (5, [.ref m1, .ref m2, .ref m3, .int (iI ((pa : Nat) : Int)), .int (iI ((pb : Nat) : Int)), .ref m4, .int (iI ((cp : Nat) : Int)), .ref m5, .int (iI ((ty : Nat) : Int)), .ref m6, .int (iI ((nE (tx sc ty) (nx + 1) : Nat) : Int)), .int (iI (vn_u49)), .int (iI (se)), .int (iI ((le : Nat) : Int)), .ref m7, .int (iI (bp)), .ref m8])), (m1, .inl (cI, 516, .inl (rI (sF cn en ac cu co au er ki bs)))), (m5, .inl (cB, 80, .inl (rI (fun j => sby (sc j)))))]) (wr := []) (ws2 := fun u => [(hm, .inr (5, [.ref m1, .ref m2, .ref m3, .int (iI ((pa : Nat) : Int)), .int (iI ((pb : Nat) : Int)), .ref m4, .int (iI ((cp : Nat) : Int)), .ref m5, .int (iI ((ty : Nat) : Int)), .ref m6, .int (iI ((u : Nat) : Int)), .int (iI (vn_u49)), .int (iI (se)), .int (iI ((le : Nat) : Int)), .ref m7, .int (iI (bp)), .ref m8])), (m1, .inl (cI, 516, .inl (rI (sF cn en ac cu co au er ki bs)))), (m5, .inl (cB, 80, .inl (rI (fun j => sby (sc j)))))]) S hE hP hD hS hA (m_takes l D cI cB cZ cO H.size hm m1 m2 m3 m4 m5 m6 m7 m8 pa pb cp ty (nE (tx sc ty) (nx + 1)) vn_u49 se le bp cn en ac cu co au er ki bs sc 59 (by first | assumption | (omega)) (by first | assumption | (omega)) (by first | assumption | (omega)) (by first | assumption | (omega))) gX5_readsCommand_X5_takes rfl ⟨rfl, rfl⟩ (by decide +kernel) ⟨Nat.le_of_ble_eq_true rfl, Nat.le_of_ble_eq_true rfl⟩ [0, 1, 2] [] [0, 1, 2] rfl (by decide) rfl (by decide) (by decide) (by decide) (fun u => rfl) 5 0 rfl rfl rfl hl.1 rfl (Nat.le_of_ble_eq_true rfl) dX5_readsCommand_189 ⟨Nat.le_of_ble_eq_true rfl, Nat.le_of_ble_eq_true rfl⟩ (fun u u189p H locs hP hD hS => ?_)
          generalize u = nx2_u189 at u189p hP hD ⊢
          obtain ⟨hat1_u189, hat0_u189⟩ := u189p
          have hat1_u189 : tx sc ty (nE (tx sc ty) (nx + 1)) = 59 → nx2_u189 = (nE (tx sc ty) (nx + 1)) + 1 := hat1_u189
          have hat0_u189 : ¬ tx sc ty (nE (tx sc ty) (nx + 1)) = 59 → nx2_u189 = (nE (tx sc ty) (nx + 1)) := hat0_u189
          have hP : va_P D vwCl [(hm, .inr (5, [.ref m1, .ref m2, .ref m3, .int (iI ((pa : Nat) : Int)), .int (iI ((pb : Nat) : Int)), .ref m4, .int (iI ((cp : Nat) : Int)), .ref m5, .int (iI ((ty : Nat) : Int)), .ref m6, .int (iI ((nx2_u189 : Nat) : Int)), .int (iI (vn_u49)), .int (iI (se)), .int (iI ((le : Nat) : Int)), .ref m7, .int (iI (bp)), .ref m8])), (m1, .inl (cI, 516, .inl (rI (sF cn en ac cu co au er ki bs)))), (m5, .inl (cB, 80, .inl (rI (fun j => sby (sc j)))))] H := hP
          have hD : va_D A [(hm, .inr (5, [.ref m1, .ref m2, .ref m3, .int (iI ((pa : Nat) : Int)), .int (iI ((pb : Nat) : Int)), .ref m4, .int (iI ((cp : Nat) : Int)), .ref m5, .int (iI ((ty : Nat) : Int)), .ref m6, .int (iI ((nx2_u189 : Nat) : Int)), .int (iI (vn_u49)), .int (iI (se)), .int (iI ((le : Nat) : Int)), .ref m7, .int (iI (bp)), .ref m8])), (m1, .inl (cI, 516, .inl (rI (sF cn en ac cu co au er ki bs)))), (m5, .inl (cB, 80, .inl (rI (fun j => sby (sc j)))))] := hD
          refine W.eq (g2 := F0 m 192 ls [.int (iI (bI (tx sc ty (nE (tx sc ty) (nx + 1)) = 59)))]) rfl ?_
          exact r_zretX hx hb hr hlocks hP hD hS (nx2_u189, vn_u49, se, le) (congrArg (fun z => some (Value.int (iI z))) ((bI_c (by omega) : (bI (tx sc ty (nE (tx sc ty) (nx + 1)) = 59)) = (bI (cK (tx sc ty) nx = 1))).symm)) (⟨by (try dsimp only); omega, by (try dsimp only); omega, by (try dsimp only); omega, by (try dsimp only); omega⟩) rfl (bI_01 _) dX5_readsCommand_192
        · skip
          have hcr := @cR_p (tx sc ty) nx (by omega) hdg
          have hll := lts_le (tx sc ty) (nE (tx sc ty) (nx + 1) + 1)
          refine lv_aload_n hx hb dX5_readsCommand_104 rfl (lv_at hl 0 rfl) ?_
          refine r_bipush hx hb dX5_readsCommand_105 (by decide) ?_
          refine callVX (n := 1) (As := [.int (iI 58)]) (rest := []) (wc := [(hm, .inr (5, [.ref m1, .ref m2, .ref m3, .int (iI ((pa : Nat) : Int)), .int (iI ((pb : Nat) : Int)), .ref m4, .int (iI ((cp : Nat) : Int)), .ref m5, .int (iI ((ty : Nat) : Int)), .ref m6, .int (iI ((nE (tx sc ty) (nx + 1) : Nat) : Int)), .int (iI (vn_u49)), .int (iI (se)), .int (iI ((le : Nat) : Int)), .ref m7, .int (iI (bp)), .ref m8])), (m1, .inl (cI, 516, .inl (rI (sF cn en ac cu co au er ki bs)))), (m5, .inl (cB, 80, .inl (rI (fun j => sby (sc j)))))]) (wr := []) (ws2 := fun u => [(hm, .inr (5, [.ref m1, .ref m2, .ref m3, .int (iI ((pa : Nat) : Int)), .int (iI ((pb : Nat) : Int)), .ref m4, .int (iI ((cp : Nat) : Int)), .ref m5, .int (iI ((ty : Nat) : Int)), .ref m6, .int (iI ((u : Nat) : Int)), .int (iI (vn_u49)), .int (iI (se)), .int (iI ((le : Nat) : Int)), .ref m7, .int (iI (bp)), .ref m8])), (m1, .inl (cI, 516, .inl (rI (sF cn en ac cu co au er ki bs)))), (m5, .inl (cB, 80, .inl (rI (fun j => sby (sc j)))))]) S hE hP hD hS hA (m_takes l D cI cB cZ cO H.size hm m1 m2 m3 m4 m5 m6 m7 m8 pa pb cp ty (nE (tx sc ty) (nx + 1)) vn_u49 se le bp cn en ac cu co au er ki bs sc 58 (by first | assumption | (omega)) (by first | assumption | (omega)) (by first | assumption | (omega)) (by first | assumption | (omega))) gX5_readsCommand_X5_takes rfl ⟨rfl, rfl⟩ (by decide +kernel) ⟨Nat.le_of_ble_eq_true rfl, Nat.le_of_ble_eq_true rfl⟩ [0, 1, 2] [] [0, 1, 2] rfl (by decide) rfl (by decide) (by decide) (by decide) (fun u => rfl) 5 0 rfl rfl rfl hl.1 rfl (Nat.le_of_ble_eq_true rfl) dX5_readsCommand_107 ⟨Nat.le_of_ble_eq_true rfl, Nat.le_of_ble_eq_true rfl⟩ (fun u u107p H locs hP hD hS => ?_)
          generalize u = nx2_u107 at u107p hP hD ⊢
          obtain ⟨hat1_u107, hat0_u107⟩ := u107p
          have hat1_u107 : tx sc ty (nE (tx sc ty) (nx + 1)) = 58 → nx2_u107 = (nE (tx sc ty) (nx + 1)) + 1 := hat1_u107
          have hat0_u107 : ¬ tx sc ty (nE (tx sc ty) (nx + 1)) = 58 → nx2_u107 = (nE (tx sc ty) (nx + 1)) := hat0_u107
          have hP : va_P D vwCl [(hm, .inr (5, [.ref m1, .ref m2, .ref m3, .int (iI ((pa : Nat) : Int)), .int (iI ((pb : Nat) : Int)), .ref m4, .int (iI ((cp : Nat) : Int)), .ref m5, .int (iI ((ty : Nat) : Int)), .ref m6, .int (iI ((nx2_u107 : Nat) : Int)), .int (iI (vn_u49)), .int (iI (se)), .int (iI ((le : Nat) : Int)), .ref m7, .int (iI (bp)), .ref m8])), (m1, .inl (cI, 516, .inl (rI (sF cn en ac cu co au er ki bs)))), (m5, .inl (cB, 80, .inl (rI (fun j => sby (sc j)))))] H := hP
          have hD : va_D A [(hm, .inr (5, [.ref m1, .ref m2, .ref m3, .int (iI ((pa : Nat) : Int)), .int (iI ((pb : Nat) : Int)), .ref m4, .int (iI ((cp : Nat) : Int)), .ref m5, .int (iI ((ty : Nat) : Int)), .ref m6, .int (iI ((nx2_u107 : Nat) : Int)), .int (iI (vn_u49)), .int (iI (se)), .int (iI ((le : Nat) : Int)), .ref m7, .int (iI (bp)), .ref m8])), (m1, .inl (cI, 516, .inl (rI (sF cn en ac cu co au er ki bs)))), (m5, .inl (cB, 80, .inl (rI (fun j => sby (sc j)))))] := hD
          refine W.eq (g2 := F0 m 110 ls [.int (iI (bI (tx sc ty (nE (tx sc ty) (nx + 1)) = 58)))]) rfl ?_
          refine r_ifb_ne (tgt := 115) hx hb dX5_readsCommand_110 (by decide) (fun c_4 => ?_) (fun c_4 => ?_)
          · skip
            obtain rfl : nx2_u107 = nE (tx sc ty) (nx + 1) + 1 := by omega
            refine lv_aload_n hx hb dX5_readsCommand_115 rfl (lv_at hl 0 rfl) ?_
            refine lv_aload_n hx hb dX5_readsCommand_116 rfl (lv_at hl 0 rfl) ?_
            refine va_get (D := D) (ci := 5) (v := .int (iI ((nE (tx sc ty) (nx + 1) + 1 : Nat) : Int))) (C := RX5) (T := TX5) (N := 17) hx hb hts nX5_readsCommand_X5 hown hK hP 0 rfl rfl 10 (by decide) (hts _ kX5_readsCommand_143) (fun _ h9 => h9) rfl dX5_readsCommand_117 ?_
            refine va_put (D := D) (ci := 5) (v := .int (iI ((nE (tx sc ty) (nx + 1) + 1 : Nat) : Int))) (ty := .int) (C := RX5) (T := TX5) (N := 17) hx hb hts nX5_readsCommand_X5 tyX5 tyX5_ok nmX5 hown hK hP hD hS 0 rfl rfl 13 (by decide) (hts _ kX5_readsCommand_161) (fun _ h9 => h9) rfl (by decide +kernel) rfl rfl (Nat.le_of_ble_eq_true rfl) dX5_readsCommand_120 (fun H locs hP hD hS => ?_)
            have hP : va_P D vwCl [(hm, .inr (5, [.ref m1, .ref m2, .ref m3, .int (iI ((pa : Nat) : Int)), .int (iI ((pb : Nat) : Int)), .ref m4, .int (iI ((cp : Nat) : Int)), .ref m5, .int (iI ((ty : Nat) : Int)), .ref m6, .int (iI ((nE (tx sc ty) (nx + 1) + 1 : Nat) : Int)), .int (iI (vn_u49)), .int (iI (se)), .int (iI ((nE (tx sc ty) (nx + 1) + 1 : Nat) : Int)), .ref m7, .int (iI (bp)), .ref m8])), (m1, .inl (cI, 516, .inl (rI (sF cn en ac cu co au er ki bs)))), (m5, .inl (cB, 80, .inl (rI (fun j => sby (sc j)))))] H := hP
            have hD : va_D A [(hm, .inr (5, [.ref m1, .ref m2, .ref m3, .int (iI ((pa : Nat) : Int)), .int (iI ((pb : Nat) : Int)), .ref m4, .int (iI ((cp : Nat) : Int)), .ref m5, .int (iI ((ty : Nat) : Int)), .ref m6, .int (iI ((nE (tx sc ty) (nx + 1) + 1 : Nat) : Int)), .int (iI (vn_u49)), .int (iI (se)), .int (iI ((nE (tx sc ty) (nx + 1) + 1 : Nat) : Int)), .ref m7, .int (iI (bp)), .ref m8])), (m1, .inl (cI, 516, .inl (rI (sF cn en ac cu co au er ki bs)))), (m5, .inl (cB, 80, .inl (rI (fun j => sby (sc j)))))] := hD
            have loop_123 : ∀ (n_123 : Nat) (d : Nat), (8 - d) < n_123 → (∀ j, j < d → 97 ≤ tx sc ty (nE (tx sc ty) (nx + 1) + 1 + j) ∧ tx sc ty (nE (tx sc ty) (nx + 1) + 1 + j) ≤ 122) → (d ≤ 8) → ∀ (H : Heap) (locs : List Loc), va_P D vwCl [(hm, .inr (5, [.ref m1, .ref m2, .ref m3, .int (iI ((pa : Nat) : Int)), .int (iI ((pb : Nat) : Int)), .ref m4, .int (iI ((cp : Nat) : Int)), .ref m5, .int (iI ((ty : Nat) : Int)), .ref m6, .int (iI (((nE (tx sc ty) (nx + 1) + 1) + d : Nat) : Int)), .int (iI (vn_u49)), .int (iI (se)), .int (iI ((nE (tx sc ty) (nx + 1) + 1 : Nat) : Int)), .ref m7, .int (iI (bp)), .ref m8])), (m1, .inl (cI, 516, .inl (rI (sF cn en ac cu co au er ki bs)))), (m5, .inl (cB, 80, .inl (rI (fun j => sby (sc j)))))] H → va_D A [(hm, .inr (5, [.ref m1, .ref m2, .ref m3, .int (iI ((pa : Nat) : Int)), .int (iI ((pb : Nat) : Int)), .ref m4, .int (iI ((cp : Nat) : Int)), .ref m5, .int (iI ((ty : Nat) : Int)), .ref m6, .int (iI (((nE (tx sc ty) (nx + 1) + 1) + d : Nat) : Int)), .int (iI (vn_u49)), .int (iI (se)), .int (iI ((nE (tx sc ty) (nx + 1) + 1 : Nat) : Int)), .ref m7, .int (iI (bp)), .ref m8])), (m1, .inl (cI, 516, .inl (rI (sF cn en ac cu co au er ki bs)))), (m5, .inl (cB, 80, .inl (rI (fun j => sby (sc j)))))] → va_S A s.heap H locs → ∀ (ls : Array Slot), lv_has ls 2 [(0, .ref hm), (1, .int (iI ((tx sc ty nx : Nat) : Int)))] → W p l e ({ frames := 2, cells := 0, slots := 0, locals := 45 }) s m ([.ref hm] : List Value).toArray below meth c H locs 0 0 (MQ below (QX D (S := Nat × Int × Int × Nat) (fun u => some (.int (iI (bI (cK (tx sc ty) nx = 1))))) (fun u => (u.1 = cP (tx sc ty) nx) ∧ (cK (tx sc ty) nx = 1 → u.2.1 = ((nV (tx sc ty) (nx + 1) : Nat) : Int)) ∧ (cK (tx sc ty) nx = 1 → tx sc ty nx = 45 → u.2.2.1 = ((nV (tx sc ty) (nE (tx sc ty) (nx + 1) + 1) : Nat) : Int)) ∧ (cK (tx sc ty) nx = 1 → tx sc ty nx = 43 → u.2.2.1 = ((lts (tx sc ty) (nE (tx sc ty) (nx + 1) + 1) : Nat) : Int) ∧ u.2.2.2 = nE (tx sc ty) (nx + 1) + 1)) (fun u => [(hm, .inr (5, [.ref m1, .ref m2, .ref m3, .int (iI ((pa : Nat) : Int)), .int (iI ((pb : Nat) : Int)), .ref m4, .int (iI ((cp : Nat) : Int)), .ref m5, .int (iI ((ty : Nat) : Int)), .ref m6, .int (iI ((u.1 : Nat) : Int)), .int (iI (u.2.1)), .int (iI (u.2.2.1)), .int (iI ((u.2.2.2 : Nat) : Int)), .ref m7, .int (iI (bp)), .ref m8])), (m1, .inl (cI, 516, .inl (rI (sF cn en ac cu co au er ki bs)))), (m5, .inl (cB, 80, .inl (rI (fun j => sby (sc j)))))]) A) ([.ref hm] : List Value).toArray s 0 0 A) (F0 m 123 ls []) := by
              intro n_123
              induction n_123 with
              | zero => intro d h_meas; exact absurd h_meas (Nat.not_lt_zero _)
              | succ n_123 ih_123 =>
                intro d h_m123 il id H locs hP hD hS ls hl
                have htxd := @hre_tx sc ty ((nE (tx sc ty) (nx + 1) + 1) + d)
                have hspd := hsc ((nE (tx sc ty) (nx + 1) + 1) + d)
                refine lv_aload_n hx hb dX5_readsCommand_123 rfl (lv_at hl 0 rfl) ?_
                refine callVO (n := 0) (As := []) (rest := []) (wc := [(hm, .inr (5, [.ref m1, .ref m2, .ref m3, .int (iI ((pa : Nat) : Int)), .int (iI ((pb : Nat) : Int)), .ref m4, .int (iI ((cp : Nat) : Int)), .ref m5, .int (iI ((ty : Nat) : Int)), .ref m6, .int (iI (((nE (tx sc ty) (nx + 1) + 1) + d : Nat) : Int)), .int (iI (vn_u49)), .int (iI (se)), .int (iI ((nE (tx sc ty) (nx + 1) + 1 : Nat) : Int)), .ref m7, .int (iI (bp)), .ref m8])), (m1, .inl (cI, 516, .inl (rI (sF cn en ac cu co au er ki bs)))), (m5, .inl (cB, 80, .inl (rI (fun j => sby (sc j)))))]) S (m_here l D cI cB cZ cO hm m1 m2 m3 m4 m5 m6 m7 m8 pa pb cp ty ((nE (tx sc ty) (nx + 1) + 1) + d) vn_u49 se (nE (tx sc ty) (nx + 1) + 1) bp cn en ac cu co au er ki bs sc (by first | assumption | (omega)) (by first | assumption | (omega)) (by first | assumption | (omega))) gX5_readsCommand_X5_here rfl ⟨rfl, rfl⟩ (by decide +kernel) ⟨Nat.le_of_ble_eq_true rfl, Nat.le_of_ble_eq_true rfl⟩ hE hP [0, 1, 2] rfl 5 0 rfl rfl rfl hl.1 rfl (Nat.le_of_ble_eq_true rfl) dX5_readsCommand_124 ⟨Nat.le_of_ble_eq_true rfl, Nat.le_of_ble_eq_true rfl⟩ ?_
                refine r_bipush hx hb dX5_readsCommand_127 (by decide) ?_
                refine r_bipush hx hb dX5_readsCommand_129 (by decide) ?_
                rw [show (97 : Int) = (97) from by omega]
                rw [show (122 : Int) = (122) from by omega]
                refine callSO (n := 3) (As := [.int (iI (hre sc ty ((nE (tx sc ty) (nx + 1) + 1) + d))), .int (iI (97)), .int (iI (122))]) (rest := []) (wc := []) S (m_in l D cI cB cZ cO (hre sc ty ((nE (tx sc ty) (nx + 1) + 1) + d)) 97 122 (by first | assumption | (omega)) (by first | assumption | (omega)) (by first | assumption | (omega))) gX5_readsCommand_X5_in rfl ⟨rfl, rfl⟩ (by decide +kernel) ⟨Nat.le_of_ble_eq_true rfl, Nat.le_of_ble_eq_true rfl⟩ hE hP [] rfl rfl hl.1 rfl (Nat.le_of_ble_eq_true rfl) dX5_readsCommand_131 ⟨Nat.le_of_ble_eq_true rfl, Nat.le_of_ble_eq_true rfl⟩ ?_
                refine r_ifb_eq (tgt := 164) hx hb dX5_readsCommand_134 (by decide) (fun c_5 => ?_) (fun c_5 => ?_)
                · skip
                  have hl9 : lts (tx sc ty) (nE (tx sc ty) (nx + 1) + 1) = d := lts_eq il (by omega) (fun _ => by omega)
                  obtain rfl : d = lts (tx sc ty) (nE (tx sc ty) (nx + 1) + 1) := by omega
                  refine lv_aload_n hx hb dX5_readsCommand_164 rfl (lv_at hl 0 rfl) ?_
                  refine lv_aload_n hx hb dX5_readsCommand_165 rfl (lv_at hl 0 rfl) ?_
                  refine va_get (D := D) (ci := 5) (v := .int (iI (((nE (tx sc ty) (nx + 1) + 1) + (lts (tx sc ty) (nE (tx sc ty) (nx + 1) + 1)) : Nat) : Int))) (C := RX5) (T := TX5) (N := 17) hx hb hts nX5_readsCommand_X5 hown hK hP 0 rfl rfl 10 (by decide) (hts _ kX5_readsCommand_143) (fun _ h9 => h9) rfl dX5_readsCommand_166 ?_
                  refine lv_aload_n hx hb dX5_readsCommand_169 rfl (lv_at hl 0 rfl) ?_
                  refine va_get (D := D) (ci := 5) (v := .int (iI ((nE (tx sc ty) (nx + 1) + 1 : Nat) : Int))) (C := RX5) (T := TX5) (N := 17) hx hb hts nX5_readsCommand_X5 hown hK hP 0 rfl rfl 13 (by decide) (hts _ kX5_readsCommand_161) (fun _ h9 => h9) rfl dX5_readsCommand_170 ?_
                  refine r_isub (v := ((lts (tx sc ty) (nE (tx sc ty) (nx + 1) + 1) : Nat) : Int)) hx hb (by omega) dX5_readsCommand_173 ?_
                  refine va_put (D := D) (ci := 5) (v := .int (iI ((lts (tx sc ty) (nE (tx sc ty) (nx + 1) + 1) : Nat) : Int))) (ty := .int) (C := RX5) (T := TX5) (N := 17) hx hb hts nX5_readsCommand_X5 tyX5 tyX5_ok nmX5 hown hK hP hD hS 0 rfl rfl 12 (by decide) (hts _ kX5_readsCommand_158) (fun _ h9 => h9) rfl (by decide +kernel) rfl rfl (Nat.le_of_ble_eq_true rfl) dX5_readsCommand_174 (fun H locs hP hD hS => ?_)
                  have hP : va_P D vwCl [(hm, .inr (5, [.ref m1, .ref m2, .ref m3, .int (iI ((pa : Nat) : Int)), .int (iI ((pb : Nat) : Int)), .ref m4, .int (iI ((cp : Nat) : Int)), .ref m5, .int (iI ((ty : Nat) : Int)), .ref m6, .int (iI (((nE (tx sc ty) (nx + 1) + 1) + (lts (tx sc ty) (nE (tx sc ty) (nx + 1) + 1)) : Nat) : Int)), .int (iI (vn_u49)), .int (iI ((lts (tx sc ty) (nE (tx sc ty) (nx + 1) + 1) : Nat) : Int)), .int (iI ((nE (tx sc ty) (nx + 1) + 1 : Nat) : Int)), .ref m7, .int (iI (bp)), .ref m8])), (m1, .inl (cI, 516, .inl (rI (sF cn en ac cu co au er ki bs)))), (m5, .inl (cB, 80, .inl (rI (fun j => sby (sc j)))))] H := hP
                  have hD : va_D A [(hm, .inr (5, [.ref m1, .ref m2, .ref m3, .int (iI ((pa : Nat) : Int)), .int (iI ((pb : Nat) : Int)), .ref m4, .int (iI ((cp : Nat) : Int)), .ref m5, .int (iI ((ty : Nat) : Int)), .ref m6, .int (iI (((nE (tx sc ty) (nx + 1) + 1) + (lts (tx sc ty) (nE (tx sc ty) (nx + 1) + 1)) : Nat) : Int)), .int (iI (vn_u49)), .int (iI ((lts (tx sc ty) (nE (tx sc ty) (nx + 1) + 1) : Nat) : Int)), .int (iI ((nE (tx sc ty) (nx + 1) + 1 : Nat) : Int)), .ref m7, .int (iI (bp)), .ref m8])), (m1, .inl (cI, 516, .inl (rI (sF cn en ac cu co au er ki bs)))), (m5, .inl (cB, 80, .inl (rI (fun j => sby (sc j)))))] := hD
                  refine lv_aload_n hx hb dX5_readsCommand_177 rfl (lv_at hl 0 rfl) ?_
                  refine va_get (D := D) (ci := 5) (v := .int (iI ((lts (tx sc ty) (nE (tx sc ty) (nx + 1) + 1) : Nat) : Int))) (C := RX5) (T := TX5) (N := 17) hx hb hts nX5_readsCommand_X5 hown hK hP 0 rfl rfl 12 (by decide) (hts _ kX5_readsCommand_158) (fun _ h9 => h9) rfl dX5_readsCommand_178 ?_
                  refine r_if_ne (tgt := 186) hx hb (by omega) dX5_readsCommand_181 (by decide) (fun c_6 => ?_) (fun c_6 => ?_)
                  · skip
                    refine lv_aload_n hx hb dX5_readsCommand_186 rfl (lv_at hl 0 rfl) ?_
                    refine r_bipush hx hb dX5_readsCommand_187 (by decide) ?_
                    refine callVX (n := 1) (As := [.int (iI 59)]) (rest := []) (wc := [(hm, .inr (5, [.ref m1, .ref m2, .ref m3, .int (iI ((pa : Nat) : Int)), .int (iI ((pb : Nat) : Int)), .ref m4, .int (iI ((cp : Nat) : Int)), .ref m5, .int (iI ((ty : Nat) : Int)), .ref m6, .int (iI (((nE (tx sc ty) (nx + 1) + 1) + (lts (tx sc ty) (nE (tx sc ty) (nx + 1) + 1)) : Nat) : Int)), .int (iI (vn_u49)), .int (iI ((lts (tx sc ty) (nE (tx sc ty) (nx + 1) + 1) : Nat) : Int)), .int (iI ((nE (tx sc ty) (nx + 1) + 1 : Nat) : Int)), .ref m7, .int (iI (bp)), .ref m8])), (m1, .inl (cI, 516, .inl (rI (sF cn en ac cu co au er ki bs)))), (m5, .inl (cB, 80, .inl (rI (fun j => sby (sc j)))))]) (wr := []) (ws2 := fun u => [(hm, .inr (5, [.ref m1, .ref m2, .ref m3, .int (iI ((pa : Nat) : Int)), .int (iI ((pb : Nat) : Int)), .ref m4, .int (iI ((cp : Nat) : Int)), .ref m5, .int (iI ((ty : Nat) : Int)), .ref m6, .int (iI ((u : Nat) : Int)), .int (iI (vn_u49)), .int (iI ((lts (tx sc ty) (nE (tx sc ty) (nx + 1) + 1) : Nat) : Int)), .int (iI ((nE (tx sc ty) (nx + 1) + 1 : Nat) : Int)), .ref m7, .int (iI (bp)), .ref m8])), (m1, .inl (cI, 516, .inl (rI (sF cn en ac cu co au er ki bs)))), (m5, .inl (cB, 80, .inl (rI (fun j => sby (sc j)))))]) S hE hP hD hS hA (m_takes l D cI cB cZ cO H.size hm m1 m2 m3 m4 m5 m6 m7 m8 pa pb cp ty ((nE (tx sc ty) (nx + 1) + 1) + (lts (tx sc ty) (nE (tx sc ty) (nx + 1) + 1))) vn_u49 (((lts (tx sc ty) (nE (tx sc ty) (nx + 1) + 1) : Nat) : Int)) (nE (tx sc ty) (nx + 1) + 1) bp cn en ac cu co au er ki bs sc 59 (by first | assumption | (omega)) (by first | assumption | (omega)) (by first | assumption | (omega)) (by first | assumption | (omega))) gX5_readsCommand_X5_takes rfl ⟨rfl, rfl⟩ (by decide +kernel) ⟨Nat.le_of_ble_eq_true rfl, Nat.le_of_ble_eq_true rfl⟩ [0, 1, 2] [] [0, 1, 2] rfl (by decide) rfl (by decide) (by decide) (by decide) (fun u => rfl) 5 0 rfl rfl rfl hl.1 rfl (Nat.le_of_ble_eq_true rfl) dX5_readsCommand_189 ⟨Nat.le_of_ble_eq_true rfl, Nat.le_of_ble_eq_true rfl⟩ (fun u u189p H locs hP hD hS => ?_)
                    generalize u = nx2_u189 at u189p hP hD ⊢
                    obtain ⟨hat1_u189, hat0_u189⟩ := u189p
                    have hat1_u189 : tx sc ty ((nE (tx sc ty) (nx + 1) + 1) + (lts (tx sc ty) (nE (tx sc ty) (nx + 1) + 1))) = 59 → nx2_u189 = ((nE (tx sc ty) (nx + 1) + 1) + (lts (tx sc ty) (nE (tx sc ty) (nx + 1) + 1))) + 1 := hat1_u189
                    have hat0_u189 : ¬ tx sc ty ((nE (tx sc ty) (nx + 1) + 1) + (lts (tx sc ty) (nE (tx sc ty) (nx + 1) + 1))) = 59 → nx2_u189 = ((nE (tx sc ty) (nx + 1) + 1) + (lts (tx sc ty) (nE (tx sc ty) (nx + 1) + 1))) := hat0_u189
                    have hP : va_P D vwCl [(hm, .inr (5, [.ref m1, .ref m2, .ref m3, .int (iI ((pa : Nat) : Int)), .int (iI ((pb : Nat) : Int)), .ref m4, .int (iI ((cp : Nat) : Int)), .ref m5, .int (iI ((ty : Nat) : Int)), .ref m6, .int (iI ((nx2_u189 : Nat) : Int)), .int (iI (vn_u49)), .int (iI ((lts (tx sc ty) (nE (tx sc ty) (nx + 1) + 1) : Nat) : Int)), .int (iI ((nE (tx sc ty) (nx + 1) + 1 : Nat) : Int)), .ref m7, .int (iI (bp)), .ref m8])), (m1, .inl (cI, 516, .inl (rI (sF cn en ac cu co au er ki bs)))), (m5, .inl (cB, 80, .inl (rI (fun j => sby (sc j)))))] H := hP
                    have hD : va_D A [(hm, .inr (5, [.ref m1, .ref m2, .ref m3, .int (iI ((pa : Nat) : Int)), .int (iI ((pb : Nat) : Int)), .ref m4, .int (iI ((cp : Nat) : Int)), .ref m5, .int (iI ((ty : Nat) : Int)), .ref m6, .int (iI ((nx2_u189 : Nat) : Int)), .int (iI (vn_u49)), .int (iI ((lts (tx sc ty) (nE (tx sc ty) (nx + 1) + 1) : Nat) : Int)), .int (iI ((nE (tx sc ty) (nx + 1) + 1 : Nat) : Int)), .ref m7, .int (iI (bp)), .ref m8])), (m1, .inl (cI, 516, .inl (rI (sF cn en ac cu co au er ki bs)))), (m5, .inl (cB, 80, .inl (rI (fun j => sby (sc j)))))] := hD
                    refine W.eq (g2 := F0 m 192 ls [.int (iI (bI (tx sc ty ((nE (tx sc ty) (nx + 1) + 1) + (lts (tx sc ty) (nE (tx sc ty) (nx + 1) + 1))) = 59)))]) rfl ?_
                    exact r_zretX hx hb hr hlocks hP hD hS (nx2_u189, vn_u49, ((lts (tx sc ty) (nE (tx sc ty) (nx + 1) + 1) : Nat) : Int), nE (tx sc ty) (nx + 1) + 1) (congrArg (fun z => some (Value.int (iI z))) ((bI_c (by omega) : (bI (tx sc ty ((nE (tx sc ty) (nx + 1) + 1) + (lts (tx sc ty) (nE (tx sc ty) (nx + 1) + 1))) = 59)) = (bI (cK (tx sc ty) nx = 1))).symm)) (⟨by (try dsimp only); omega, by (try dsimp only); omega, by (try dsimp only); omega, by (try dsimp only); omega⟩) rfl (bI_01 _) dX5_readsCommand_192
                  · skip
                    refine r_iconst hx hb dX5_readsCommand_184 ?_
                    exact r_zretX hx hb hr hlocks hP hD hS ((nE (tx sc ty) (nx + 1) + 1) + (lts (tx sc ty) (nE (tx sc ty) (nx + 1) + 1)), vn_u49, ((lts (tx sc ty) (nE (tx sc ty) (nx + 1) + 1) : Nat) : Int), nE (tx sc ty) (nx + 1) + 1) (congrArg (fun z => some (Value.int (iI z))) (((bI_f (by omega)).symm : 0 = (bI (cK (tx sc ty) nx = 1))).symm)) (⟨by (try dsimp only); omega, by (try dsimp only); omega, by (try dsimp only); omega, by (try dsimp only); omega⟩) rfl (Or.inl rfl) dX5_readsCommand_185
                · skip
                  refine lv_aload_n hx hb dX5_readsCommand_137 rfl (lv_at hl 0 rfl) ?_
                  refine va_get (D := D) (ci := 5) (v := .int (iI (((nE (tx sc ty) (nx + 1) + 1) + d : Nat) : Int))) (C := RX5) (T := TX5) (N := 17) hx hb hts nX5_readsCommand_X5 hown hK hP 0 rfl rfl 10 (by decide) (hts _ kX5_readsCommand_143) (fun _ h9 => h9) rfl dX5_readsCommand_138 ?_
                  refine lv_aload_n hx hb dX5_readsCommand_141 rfl (lv_at hl 0 rfl) ?_
                  refine va_get (D := D) (ci := 5) (v := .int (iI ((nE (tx sc ty) (nx + 1) + 1 : Nat) : Int))) (C := RX5) (T := TX5) (N := 17) hx hb hts nX5_readsCommand_X5 hown hK hP 0 rfl rfl 13 (by decide) (hts _ kX5_readsCommand_161) (fun _ h9 => h9) rfl dX5_readsCommand_142 ?_
                  refine r_bipush hx hb dX5_readsCommand_145 (by decide) ?_
                  refine r_iadd (v := ((nE (tx sc ty) (nx + 1) + 9 : Nat) : Int)) hx hb (by omega) dX5_readsCommand_147 ?_
                  refine r_icmp_ge (tgt := 164) hx hb (by omega) (by omega) dX5_readsCommand_148 (by decide) (fun c_7 => ?_) (fun c_7 => ?_)
                  · skip
                    have hl9 : lts (tx sc ty) (nE (tx sc ty) (nx + 1) + 1) = d := lts_eq il (by omega) (fun _ => by omega)
                    obtain rfl : d = lts (tx sc ty) (nE (tx sc ty) (nx + 1) + 1) := by omega
                    refine lv_aload_n hx hb dX5_readsCommand_164 rfl (lv_at hl 0 rfl) ?_
                    refine lv_aload_n hx hb dX5_readsCommand_165 rfl (lv_at hl 0 rfl) ?_
                    refine va_get (D := D) (ci := 5) (v := .int (iI (((nE (tx sc ty) (nx + 1) + 1) + (lts (tx sc ty) (nE (tx sc ty) (nx + 1) + 1)) : Nat) : Int))) (C := RX5) (T := TX5) (N := 17) hx hb hts nX5_readsCommand_X5 hown hK hP 0 rfl rfl 10 (by decide) (hts _ kX5_readsCommand_143) (fun _ h9 => h9) rfl dX5_readsCommand_166 ?_
                    refine lv_aload_n hx hb dX5_readsCommand_169 rfl (lv_at hl 0 rfl) ?_
                    refine va_get (D := D) (ci := 5) (v := .int (iI ((nE (tx sc ty) (nx + 1) + 1 : Nat) : Int))) (C := RX5) (T := TX5) (N := 17) hx hb hts nX5_readsCommand_X5 hown hK hP 0 rfl rfl 13 (by decide) (hts _ kX5_readsCommand_161) (fun _ h9 => h9) rfl dX5_readsCommand_170 ?_
                    refine r_isub (v := ((lts (tx sc ty) (nE (tx sc ty) (nx + 1) + 1) : Nat) : Int)) hx hb (by omega) dX5_readsCommand_173 ?_
                    refine va_put (D := D) (ci := 5) (v := .int (iI ((lts (tx sc ty) (nE (tx sc ty) (nx + 1) + 1) : Nat) : Int))) (ty := .int) (C := RX5) (T := TX5) (N := 17) hx hb hts nX5_readsCommand_X5 tyX5 tyX5_ok nmX5 hown hK hP hD hS 0 rfl rfl 12 (by decide) (hts _ kX5_readsCommand_158) (fun _ h9 => h9) rfl (by decide +kernel) rfl rfl (Nat.le_of_ble_eq_true rfl) dX5_readsCommand_174 (fun H locs hP hD hS => ?_)
                    have hP : va_P D vwCl [(hm, .inr (5, [.ref m1, .ref m2, .ref m3, .int (iI ((pa : Nat) : Int)), .int (iI ((pb : Nat) : Int)), .ref m4, .int (iI ((cp : Nat) : Int)), .ref m5, .int (iI ((ty : Nat) : Int)), .ref m6, .int (iI (((nE (tx sc ty) (nx + 1) + 1) + (lts (tx sc ty) (nE (tx sc ty) (nx + 1) + 1)) : Nat) : Int)), .int (iI (vn_u49)), .int (iI ((lts (tx sc ty) (nE (tx sc ty) (nx + 1) + 1) : Nat) : Int)), .int (iI ((nE (tx sc ty) (nx + 1) + 1 : Nat) : Int)), .ref m7, .int (iI (bp)), .ref m8])), (m1, .inl (cI, 516, .inl (rI (sF cn en ac cu co au er ki bs)))), (m5, .inl (cB, 80, .inl (rI (fun j => sby (sc j)))))] H := hP
                    have hD : va_D A [(hm, .inr (5, [.ref m1, .ref m2, .ref m3, .int (iI ((pa : Nat) : Int)), .int (iI ((pb : Nat) : Int)), .ref m4, .int (iI ((cp : Nat) : Int)), .ref m5, .int (iI ((ty : Nat) : Int)), .ref m6, .int (iI (((nE (tx sc ty) (nx + 1) + 1) + (lts (tx sc ty) (nE (tx sc ty) (nx + 1) + 1)) : Nat) : Int)), .int (iI (vn_u49)), .int (iI ((lts (tx sc ty) (nE (tx sc ty) (nx + 1) + 1) : Nat) : Int)), .int (iI ((nE (tx sc ty) (nx + 1) + 1 : Nat) : Int)), .ref m7, .int (iI (bp)), .ref m8])), (m1, .inl (cI, 516, .inl (rI (sF cn en ac cu co au er ki bs)))), (m5, .inl (cB, 80, .inl (rI (fun j => sby (sc j)))))] := hD
                    refine lv_aload_n hx hb dX5_readsCommand_177 rfl (lv_at hl 0 rfl) ?_
                    refine va_get (D := D) (ci := 5) (v := .int (iI ((lts (tx sc ty) (nE (tx sc ty) (nx + 1) + 1) : Nat) : Int))) (C := RX5) (T := TX5) (N := 17) hx hb hts nX5_readsCommand_X5 hown hK hP 0 rfl rfl 12 (by decide) (hts _ kX5_readsCommand_158) (fun _ h9 => h9) rfl dX5_readsCommand_178 ?_
                    refine r_if_ne (tgt := 186) hx hb (by omega) dX5_readsCommand_181 (by decide) (fun c_8 => ?_) (fun c_8 => ?_)
                    · skip
                      refine lv_aload_n hx hb dX5_readsCommand_186 rfl (lv_at hl 0 rfl) ?_
                      refine r_bipush hx hb dX5_readsCommand_187 (by decide) ?_
                      refine callVX (n := 1) (As := [.int (iI 59)]) (rest := []) (wc := [(hm, .inr (5, [.ref m1, .ref m2, .ref m3, .int (iI ((pa : Nat) : Int)), .int (iI ((pb : Nat) : Int)), .ref m4, .int (iI ((cp : Nat) : Int)), .ref m5, .int (iI ((ty : Nat) : Int)), .ref m6, .int (iI (((nE (tx sc ty) (nx + 1) + 1) + (lts (tx sc ty) (nE (tx sc ty) (nx + 1) + 1)) : Nat) : Int)), .int (iI (vn_u49)), .int (iI ((lts (tx sc ty) (nE (tx sc ty) (nx + 1) + 1) : Nat) : Int)), .int (iI ((nE (tx sc ty) (nx + 1) + 1 : Nat) : Int)), .ref m7, .int (iI (bp)), .ref m8])), (m1, .inl (cI, 516, .inl (rI (sF cn en ac cu co au er ki bs)))), (m5, .inl (cB, 80, .inl (rI (fun j => sby (sc j)))))]) (wr := []) (ws2 := fun u => [(hm, .inr (5, [.ref m1, .ref m2, .ref m3, .int (iI ((pa : Nat) : Int)), .int (iI ((pb : Nat) : Int)), .ref m4, .int (iI ((cp : Nat) : Int)), .ref m5, .int (iI ((ty : Nat) : Int)), .ref m6, .int (iI ((u : Nat) : Int)), .int (iI (vn_u49)), .int (iI ((lts (tx sc ty) (nE (tx sc ty) (nx + 1) + 1) : Nat) : Int)), .int (iI ((nE (tx sc ty) (nx + 1) + 1 : Nat) : Int)), .ref m7, .int (iI (bp)), .ref m8])), (m1, .inl (cI, 516, .inl (rI (sF cn en ac cu co au er ki bs)))), (m5, .inl (cB, 80, .inl (rI (fun j => sby (sc j)))))]) S hE hP hD hS hA (m_takes l D cI cB cZ cO H.size hm m1 m2 m3 m4 m5 m6 m7 m8 pa pb cp ty ((nE (tx sc ty) (nx + 1) + 1) + (lts (tx sc ty) (nE (tx sc ty) (nx + 1) + 1))) vn_u49 (((lts (tx sc ty) (nE (tx sc ty) (nx + 1) + 1) : Nat) : Int)) (nE (tx sc ty) (nx + 1) + 1) bp cn en ac cu co au er ki bs sc 59 (by first | assumption | (omega)) (by first | assumption | (omega)) (by first | assumption | (omega)) (by first | assumption | (omega))) gX5_readsCommand_X5_takes rfl ⟨rfl, rfl⟩ (by decide +kernel) ⟨Nat.le_of_ble_eq_true rfl, Nat.le_of_ble_eq_true rfl⟩ [0, 1, 2] [] [0, 1, 2] rfl (by decide) rfl (by decide) (by decide) (by decide) (fun u => rfl) 5 0 rfl rfl rfl hl.1 rfl (Nat.le_of_ble_eq_true rfl) dX5_readsCommand_189 ⟨Nat.le_of_ble_eq_true rfl, Nat.le_of_ble_eq_true rfl⟩ (fun u u189p H locs hP hD hS => ?_)
                      generalize u = nx2_u189 at u189p hP hD ⊢
                      obtain ⟨hat1_u189, hat0_u189⟩ := u189p
                      have hat1_u189 : tx sc ty ((nE (tx sc ty) (nx + 1) + 1) + (lts (tx sc ty) (nE (tx sc ty) (nx + 1) + 1))) = 59 → nx2_u189 = ((nE (tx sc ty) (nx + 1) + 1) + (lts (tx sc ty) (nE (tx sc ty) (nx + 1) + 1))) + 1 := hat1_u189
                      have hat0_u189 : ¬ tx sc ty ((nE (tx sc ty) (nx + 1) + 1) + (lts (tx sc ty) (nE (tx sc ty) (nx + 1) + 1))) = 59 → nx2_u189 = ((nE (tx sc ty) (nx + 1) + 1) + (lts (tx sc ty) (nE (tx sc ty) (nx + 1) + 1))) := hat0_u189
                      have hP : va_P D vwCl [(hm, .inr (5, [.ref m1, .ref m2, .ref m3, .int (iI ((pa : Nat) : Int)), .int (iI ((pb : Nat) : Int)), .ref m4, .int (iI ((cp : Nat) : Int)), .ref m5, .int (iI ((ty : Nat) : Int)), .ref m6, .int (iI ((nx2_u189 : Nat) : Int)), .int (iI (vn_u49)), .int (iI ((lts (tx sc ty) (nE (tx sc ty) (nx + 1) + 1) : Nat) : Int)), .int (iI ((nE (tx sc ty) (nx + 1) + 1 : Nat) : Int)), .ref m7, .int (iI (bp)), .ref m8])), (m1, .inl (cI, 516, .inl (rI (sF cn en ac cu co au er ki bs)))), (m5, .inl (cB, 80, .inl (rI (fun j => sby (sc j)))))] H := hP
                      have hD : va_D A [(hm, .inr (5, [.ref m1, .ref m2, .ref m3, .int (iI ((pa : Nat) : Int)), .int (iI ((pb : Nat) : Int)), .ref m4, .int (iI ((cp : Nat) : Int)), .ref m5, .int (iI ((ty : Nat) : Int)), .ref m6, .int (iI ((nx2_u189 : Nat) : Int)), .int (iI (vn_u49)), .int (iI ((lts (tx sc ty) (nE (tx sc ty) (nx + 1) + 1) : Nat) : Int)), .int (iI ((nE (tx sc ty) (nx + 1) + 1 : Nat) : Int)), .ref m7, .int (iI (bp)), .ref m8])), (m1, .inl (cI, 516, .inl (rI (sF cn en ac cu co au er ki bs)))), (m5, .inl (cB, 80, .inl (rI (fun j => sby (sc j)))))] := hD
                      refine W.eq (g2 := F0 m 192 ls [.int (iI (bI (tx sc ty ((nE (tx sc ty) (nx + 1) + 1) + (lts (tx sc ty) (nE (tx sc ty) (nx + 1) + 1))) = 59)))]) rfl ?_
                      exact r_zretX hx hb hr hlocks hP hD hS (nx2_u189, vn_u49, ((lts (tx sc ty) (nE (tx sc ty) (nx + 1) + 1) : Nat) : Int), nE (tx sc ty) (nx + 1) + 1) (congrArg (fun z => some (Value.int (iI z))) ((bI_c (by omega) : (bI (tx sc ty ((nE (tx sc ty) (nx + 1) + 1) + (lts (tx sc ty) (nE (tx sc ty) (nx + 1) + 1))) = 59)) = (bI (cK (tx sc ty) nx = 1))).symm)) (⟨by (try dsimp only); omega, by (try dsimp only); omega, by (try dsimp only); omega, by (try dsimp only); omega⟩) rfl (bI_01 _) dX5_readsCommand_192
                    · skip
                      refine r_iconst hx hb dX5_readsCommand_184 ?_
                      exact r_zretX hx hb hr hlocks hP hD hS ((nE (tx sc ty) (nx + 1) + 1) + (lts (tx sc ty) (nE (tx sc ty) (nx + 1) + 1)), vn_u49, ((lts (tx sc ty) (nE (tx sc ty) (nx + 1) + 1) : Nat) : Int), nE (tx sc ty) (nx + 1) + 1) (congrArg (fun z => some (Value.int (iI z))) (((bI_f (by omega)).symm : 0 = (bI (cK (tx sc ty) nx = 1))).symm)) (⟨by (try dsimp only); omega, by (try dsimp only); omega, by (try dsimp only); omega, by (try dsimp only); omega⟩) rfl (Or.inl rfl) dX5_readsCommand_185
                  · skip
                    refine lv_aload_n hx hb dX5_readsCommand_151 rfl (lv_at hl 0 rfl) ?_
                    refine lv_dup hx hb dX5_readsCommand_152 rfl ?_
                    refine va_get (D := D) (ci := 5) (v := .int (iI (((nE (tx sc ty) (nx + 1) + 1) + d : Nat) : Int))) (C := RX5) (T := TX5) (N := 17) hx hb hts nX5_readsCommand_X5 hown hK hP 0 rfl rfl 10 (by decide) (hts _ kX5_readsCommand_143) (fun _ h9 => h9) rfl dX5_readsCommand_153 ?_
                    refine r_iconst hx hb dX5_readsCommand_156 ?_
                    refine r_iadd (v := ((((nE (tx sc ty) (nx + 1) + 1) + d) + 1 : Nat) : Int)) hx hb (rfl) dX5_readsCommand_157 ?_
                    refine va_put (D := D) (ci := 5) (v := .int (iI ((((nE (tx sc ty) (nx + 1) + 1) + d) + 1 : Nat) : Int))) (ty := .int) (C := RX5) (T := TX5) (N := 17) hx hb hts nX5_readsCommand_X5 tyX5 tyX5_ok nmX5 hown hK hP hD hS 0 rfl rfl 10 (by decide) (hts _ kX5_readsCommand_143) (fun _ h9 => h9) rfl (by decide +kernel) rfl rfl (Nat.le_of_ble_eq_true rfl) dX5_readsCommand_158 (fun H locs hP hD hS => ?_)
                    have hP : va_P D vwCl [(hm, .inr (5, [.ref m1, .ref m2, .ref m3, .int (iI ((pa : Nat) : Int)), .int (iI ((pb : Nat) : Int)), .ref m4, .int (iI ((cp : Nat) : Int)), .ref m5, .int (iI ((ty : Nat) : Int)), .ref m6, .int (iI ((((nE (tx sc ty) (nx + 1) + 1) + d) + 1 : Nat) : Int)), .int (iI (vn_u49)), .int (iI (se)), .int (iI ((nE (tx sc ty) (nx + 1) + 1 : Nat) : Int)), .ref m7, .int (iI (bp)), .ref m8])), (m1, .inl (cI, 516, .inl (rI (sF cn en ac cu co au er ki bs)))), (m5, .inl (cB, 80, .inl (rI (fun j => sby (sc j)))))] H := hP
                    have hD : va_D A [(hm, .inr (5, [.ref m1, .ref m2, .ref m3, .int (iI ((pa : Nat) : Int)), .int (iI ((pb : Nat) : Int)), .ref m4, .int (iI ((cp : Nat) : Int)), .ref m5, .int (iI ((ty : Nat) : Int)), .ref m6, .int (iI ((((nE (tx sc ty) (nx + 1) + 1) + d) + 1 : Nat) : Int)), .int (iI (vn_u49)), .int (iI (se)), .int (iI ((nE (tx sc ty) (nx + 1) + 1 : Nat) : Int)), .ref m7, .int (iI (bp)), .ref m8])), (m1, .inl (cI, 516, .inl (rI (sF cn en ac cu co au er ki bs)))), (m5, .inl (cB, 80, .inl (rI (fun j => sby (sc j)))))] := hD
                    refine lv_goto (tgt := 123) hx hb dX5_readsCommand_161 (by decide) ?_
                    have hww : ([(hm, .inr (5, [.ref m1, .ref m2, .ref m3, .int (iI ((pa : Nat) : Int)), .int (iI ((pb : Nat) : Int)), .ref m4, .int (iI ((cp : Nat) : Int)), .ref m5, .int (iI ((ty : Nat) : Int)), .ref m6, .int (iI ((((nE (tx sc ty) (nx + 1) + 1) + d) + 1 : Nat) : Int)), .int (iI (vn_u49)), .int (iI (se)), .int (iI ((nE (tx sc ty) (nx + 1) + 1 : Nat) : Int)), .ref m7, .int (iI (bp)), .ref m8])), (m1, .inl (cI, 516, .inl (rI (sF cn en ac cu co au er ki bs)))), (m5, .inl (cB, 80, .inl (rI (fun j => sby (sc j)))))] : va_W) = [(hm, .inr (5, [.ref m1, .ref m2, .ref m3, .int (iI ((pa : Nat) : Int)), .int (iI ((pb : Nat) : Int)), .ref m4, .int (iI ((cp : Nat) : Int)), .ref m5, .int (iI ((ty : Nat) : Int)), .ref m6, .int (iI (((nE (tx sc ty) (nx + 1) + 1) + (d + 1) : Nat) : Int)), .int (iI (vn_u49)), .int (iI (se)), .int (iI ((nE (tx sc ty) (nx + 1) + 1 : Nat) : Int)), .ref m7, .int (iI (bp)), .ref m8])), (m1, .inl (cI, 516, .inl (rI (sF cn en ac cu co au er ki bs)))), (m5, .inl (cB, 80, .inl (rI (fun j => sby (sc j)))))] := by rw [Nat.add_assoc _ d 1]
                    rw [hww] at hP hD
                    exact ih_123 (d + 1) (by omega) (by exact run_s il (by omega)) (by first | assumption | (omega)) H locs hP hD hS ls (lv_sub hl [0, 1] rfl)
            have hww : ([(hm, .inr (5, [.ref m1, .ref m2, .ref m3, .int (iI ((pa : Nat) : Int)), .int (iI ((pb : Nat) : Int)), .ref m4, .int (iI ((cp : Nat) : Int)), .ref m5, .int (iI ((ty : Nat) : Int)), .ref m6, .int (iI ((nE (tx sc ty) (nx + 1) + 1 : Nat) : Int)), .int (iI (vn_u49)), .int (iI (se)), .int (iI ((nE (tx sc ty) (nx + 1) + 1 : Nat) : Int)), .ref m7, .int (iI (bp)), .ref m8])), (m1, .inl (cI, 516, .inl (rI (sF cn en ac cu co au er ki bs)))), (m5, .inl (cB, 80, .inl (rI (fun j => sby (sc j)))))] : va_W) = [(hm, .inr (5, [.ref m1, .ref m2, .ref m3, .int (iI ((pa : Nat) : Int)), .int (iI ((pb : Nat) : Int)), .ref m4, .int (iI ((cp : Nat) : Int)), .ref m5, .int (iI ((ty : Nat) : Int)), .ref m6, .int (iI (((nE (tx sc ty) (nx + 1) + 1) + 0 : Nat) : Int)), .int (iI (vn_u49)), .int (iI (se)), .int (iI ((nE (tx sc ty) (nx + 1) + 1 : Nat) : Int)), .ref m7, .int (iI (bp)), .ref m8])), (m1, .inl (cI, 516, .inl (rI (sF cn en ac cu co au er ki bs)))), (m5, .inl (cB, 80, .inl (rI (fun j => sby (sc j)))))] := by rw [Nat.add_zero]
            rw [hww] at hP hD
            exact loop_123 ((8 - 0) + 1) 0 (by omega) (by intro j hj; omega) (by first | assumption | (omega)) H locs hP hD hS ls (lv_sub hl [0, 1] rfl)
          · skip
            refine r_iconst hx hb dX5_readsCommand_113 ?_
            exact r_zretX hx hb hr hlocks hP hD hS (nx2_u107, vn_u49, se, le) (congrArg (fun z => some (Value.int (iI z))) (((bI_f (by omega)).symm : 0 = (bI (cK (tx sc ty) nx = 1))).symm)) (⟨by (try dsimp only); omega, by (try dsimp only); omega, by (try dsimp only); omega, by (try dsimp only); omega⟩) rfl (Or.inl rfl) dX5_readsCommand_114
      · skip
        have hcr := @cR_m (tx sc ty) nx (by omega) hdg
        have hne2 := nE_f (tx sc ty) (nE (tx sc ty) (nx + 1) + 1)
        refine lv_aload_n hx hb dX5_readsCommand_70 rfl (lv_at hl 0 rfl) ?_
        refine r_bipush hx hb dX5_readsCommand_71 (by decide) ?_
        refine callVX (n := 1) (As := [.int (iI 44)]) (rest := []) (wc := [(hm, .inr (5, [.ref m1, .ref m2, .ref m3, .int (iI ((pa : Nat) : Int)), .int (iI ((pb : Nat) : Int)), .ref m4, .int (iI ((cp : Nat) : Int)), .ref m5, .int (iI ((ty : Nat) : Int)), .ref m6, .int (iI ((nE (tx sc ty) (nx + 1) : Nat) : Int)), .int (iI (vn_u49)), .int (iI (se)), .int (iI ((le : Nat) : Int)), .ref m7, .int (iI (bp)), .ref m8])), (m1, .inl (cI, 516, .inl (rI (sF cn en ac cu co au er ki bs)))), (m5, .inl (cB, 80, .inl (rI (fun j => sby (sc j)))))]) (wr := []) (ws2 := fun u => [(hm, .inr (5, [.ref m1, .ref m2, .ref m3, .int (iI ((pa : Nat) : Int)), .int (iI ((pb : Nat) : Int)), .ref m4, .int (iI ((cp : Nat) : Int)), .ref m5, .int (iI ((ty : Nat) : Int)), .ref m6, .int (iI ((u : Nat) : Int)), .int (iI (vn_u49)), .int (iI (se)), .int (iI ((le : Nat) : Int)), .ref m7, .int (iI (bp)), .ref m8])), (m1, .inl (cI, 516, .inl (rI (sF cn en ac cu co au er ki bs)))), (m5, .inl (cB, 80, .inl (rI (fun j => sby (sc j)))))]) S hE hP hD hS hA (m_takes l D cI cB cZ cO H.size hm m1 m2 m3 m4 m5 m6 m7 m8 pa pb cp ty (nE (tx sc ty) (nx + 1)) vn_u49 se le bp cn en ac cu co au er ki bs sc 44 (by first | assumption | (omega)) (by first | assumption | (omega)) (by first | assumption | (omega)) (by first | assumption | (omega))) gX5_readsCommand_X5_takes rfl ⟨rfl, rfl⟩ (by decide +kernel) ⟨Nat.le_of_ble_eq_true rfl, Nat.le_of_ble_eq_true rfl⟩ [0, 1, 2] [] [0, 1, 2] rfl (by decide) rfl (by decide) (by decide) (by decide) (fun u => rfl) 5 0 rfl rfl rfl hl.1 rfl (Nat.le_of_ble_eq_true rfl) dX5_readsCommand_73 ⟨Nat.le_of_ble_eq_true rfl, Nat.le_of_ble_eq_true rfl⟩ (fun u u73p H locs hP hD hS => ?_)
        generalize u = nx2_u73 at u73p hP hD ⊢
        obtain ⟨hat1_u73, hat0_u73⟩ := u73p
        have hat1_u73 : tx sc ty (nE (tx sc ty) (nx + 1)) = 44 → nx2_u73 = (nE (tx sc ty) (nx + 1)) + 1 := hat1_u73
        have hat0_u73 : ¬ tx sc ty (nE (tx sc ty) (nx + 1)) = 44 → nx2_u73 = (nE (tx sc ty) (nx + 1)) := hat0_u73
        have hP : va_P D vwCl [(hm, .inr (5, [.ref m1, .ref m2, .ref m3, .int (iI ((pa : Nat) : Int)), .int (iI ((pb : Nat) : Int)), .ref m4, .int (iI ((cp : Nat) : Int)), .ref m5, .int (iI ((ty : Nat) : Int)), .ref m6, .int (iI ((nx2_u73 : Nat) : Int)), .int (iI (vn_u49)), .int (iI (se)), .int (iI ((le : Nat) : Int)), .ref m7, .int (iI (bp)), .ref m8])), (m1, .inl (cI, 516, .inl (rI (sF cn en ac cu co au er ki bs)))), (m5, .inl (cB, 80, .inl (rI (fun j => sby (sc j)))))] H := hP
        have hD : va_D A [(hm, .inr (5, [.ref m1, .ref m2, .ref m3, .int (iI ((pa : Nat) : Int)), .int (iI ((pb : Nat) : Int)), .ref m4, .int (iI ((cp : Nat) : Int)), .ref m5, .int (iI ((ty : Nat) : Int)), .ref m6, .int (iI ((nx2_u73 : Nat) : Int)), .int (iI (vn_u49)), .int (iI (se)), .int (iI ((le : Nat) : Int)), .ref m7, .int (iI (bp)), .ref m8])), (m1, .inl (cI, 516, .inl (rI (sF cn en ac cu co au er ki bs)))), (m5, .inl (cB, 80, .inl (rI (fun j => sby (sc j)))))] := hD
        refine W.eq (g2 := F0 m 76 ls [.int (iI (bI (tx sc ty (nE (tx sc ty) (nx + 1)) = 44)))]) rfl ?_
        refine r_ifb_ne (tgt := 81) hx hb dX5_readsCommand_76 (by decide) (fun c_9 => ?_) (fun c_9 => ?_)
        · skip
          obtain rfl : nx2_u73 = nE (tx sc ty) (nx + 1) + 1 := by omega
          refine lv_aload_n hx hb dX5_readsCommand_81 rfl (lv_at hl 0 rfl) ?_
          refine lv_aload_n hx hb dX5_readsCommand_82 rfl (lv_at hl 0 rfl) ?_
          refine callVX (n := 0) (As := []) (rest := [.ref hm]) (wc := [(hm, .inr (5, [.ref m1, .ref m2, .ref m3, .int (iI ((pa : Nat) : Int)), .int (iI ((pb : Nat) : Int)), .ref m4, .int (iI ((cp : Nat) : Int)), .ref m5, .int (iI ((ty : Nat) : Int)), .ref m6, .int (iI ((nE (tx sc ty) (nx + 1) + 1 : Nat) : Int)), .int (iI (vn_u49)), .int (iI (se)), .int (iI ((le : Nat) : Int)), .ref m7, .int (iI (bp)), .ref m8])), (m1, .inl (cI, 516, .inl (rI (sF cn en ac cu co au er ki bs)))), (m5, .inl (cB, 80, .inl (rI (fun j => sby (sc j)))))]) (wr := []) (ws2 := fun u => [(hm, .inr (5, [.ref m1, .ref m2, .ref m3, .int (iI ((pa : Nat) : Int)), .int (iI ((pb : Nat) : Int)), .ref m4, .int (iI ((cp : Nat) : Int)), .ref m5, .int (iI ((ty : Nat) : Int)), .ref m6, .int (iI ((u.1 : Nat) : Int)), .int (iI (vn_u49)), .int (iI (se)), .int (iI ((le : Nat) : Int)), .ref m7, .int (iI (bp)), .ref m8])), (m1, .inl (cI, 516, .inl (rI (sF cn en ac cu co au er ki bs)))), (m5, .inl (cB, 80, .inl (rI (fun j => sby (sc j)))))]) S hE hP hD hS hA (m_readsNumber l D cI cB cZ cO H.size hm m1 m2 m3 m4 m5 m6 m7 m8 pa pb cp ty (nE (tx sc ty) (nx + 1) + 1) vn_u49 se le bp cn en ac cu co au er ki bs sc (by first | assumption | (omega)) (by first | assumption | (omega)) (by first | assumption | (omega))) gX5_readsCommand_X5_readsNumber rfl ⟨rfl, rfl⟩ (by decide +kernel) ⟨Nat.le_of_ble_eq_true rfl, Nat.le_of_ble_eq_true rfl⟩ [0, 1, 2] [] [0, 1, 2] rfl (by decide) rfl (by decide) (by decide) (by decide) (fun u => rfl) 5 0 rfl rfl rfl hl.1 rfl (Nat.le_of_ble_eq_true rfl) dX5_readsCommand_83 ⟨Nat.le_of_ble_eq_true rfl, Nat.le_of_ble_eq_true rfl⟩ (fun u u83p H locs hP hD hS => ?_)
          obtain ⟨nx2_u83, vn_u83⟩ := u
          obtain ⟨hny_u83, hnn_u83⟩ := u83p
          have hny_u83 : (48 ≤ tx sc ty (nE (tx sc ty) (nx + 1) + 1) ∧ tx sc ty (nE (tx sc ty) (nx + 1) + 1) ≤ 57) → nx2_u83 = nE (tx sc ty) (nE (tx sc ty) (nx + 1) + 1) ∧ vn_u83 = ((nV (tx sc ty) (nE (tx sc ty) (nx + 1) + 1) : Nat) : Int) := hny_u83
          have hnn_u83 : ¬ (48 ≤ tx sc ty (nE (tx sc ty) (nx + 1) + 1) ∧ tx sc ty (nE (tx sc ty) (nx + 1) + 1) ≤ 57) → nx2_u83 = (nE (tx sc ty) (nx + 1) + 1) ∧ vn_u83 = -1 := hnn_u83
          have hP : va_P D vwCl [(hm, .inr (5, [.ref m1, .ref m2, .ref m3, .int (iI ((pa : Nat) : Int)), .int (iI ((pb : Nat) : Int)), .ref m4, .int (iI ((cp : Nat) : Int)), .ref m5, .int (iI ((ty : Nat) : Int)), .ref m6, .int (iI ((nx2_u83 : Nat) : Int)), .int (iI (vn_u49)), .int (iI (se)), .int (iI ((le : Nat) : Int)), .ref m7, .int (iI (bp)), .ref m8])), (m1, .inl (cI, 516, .inl (rI (sF cn en ac cu co au er ki bs)))), (m5, .inl (cB, 80, .inl (rI (fun j => sby (sc j)))))] H := hP
          have hD : va_D A [(hm, .inr (5, [.ref m1, .ref m2, .ref m3, .int (iI ((pa : Nat) : Int)), .int (iI ((pb : Nat) : Int)), .ref m4, .int (iI ((cp : Nat) : Int)), .ref m5, .int (iI ((ty : Nat) : Int)), .ref m6, .int (iI ((nx2_u83 : Nat) : Int)), .int (iI (vn_u49)), .int (iI (se)), .int (iI ((le : Nat) : Int)), .ref m7, .int (iI (bp)), .ref m8])), (m1, .inl (cI, 516, .inl (rI (sF cn en ac cu co au er ki bs)))), (m5, .inl (cB, 80, .inl (rI (fun j => sby (sc j)))))] := hD
          refine W.eq (g2 := F0 m 86 ls [.int (iI (vn_u83)), .ref hm]) rfl ?_
          refine va_put (D := D) (ci := 5) (v := .int (iI (vn_u83))) (ty := .int) (C := RX5) (T := TX5) (N := 17) hx hb hts nX5_readsCommand_X5 tyX5 tyX5_ok nmX5 hown hK hP hD hS 0 rfl rfl 12 (by decide) (hts _ kX5_readsCommand_158) (fun _ h9 => h9) rfl (by decide +kernel) rfl rfl (Nat.le_of_ble_eq_true rfl) dX5_readsCommand_86 (fun H locs hP hD hS => ?_)
          have hP : va_P D vwCl [(hm, .inr (5, [.ref m1, .ref m2, .ref m3, .int (iI ((pa : Nat) : Int)), .int (iI ((pb : Nat) : Int)), .ref m4, .int (iI ((cp : Nat) : Int)), .ref m5, .int (iI ((ty : Nat) : Int)), .ref m6, .int (iI ((nx2_u83 : Nat) : Int)), .int (iI (vn_u49)), .int (iI (vn_u83)), .int (iI ((le : Nat) : Int)), .ref m7, .int (iI (bp)), .ref m8])), (m1, .inl (cI, 516, .inl (rI (sF cn en ac cu co au er ki bs)))), (m5, .inl (cB, 80, .inl (rI (fun j => sby (sc j)))))] H := hP
          have hD : va_D A [(hm, .inr (5, [.ref m1, .ref m2, .ref m3, .int (iI ((pa : Nat) : Int)), .int (iI ((pb : Nat) : Int)), .ref m4, .int (iI ((cp : Nat) : Int)), .ref m5, .int (iI ((ty : Nat) : Int)), .ref m6, .int (iI ((nx2_u83 : Nat) : Int)), .int (iI (vn_u49)), .int (iI (vn_u83)), .int (iI ((le : Nat) : Int)), .ref m7, .int (iI (bp)), .ref m8])), (m1, .inl (cI, 516, .inl (rI (sF cn en ac cu co au er ki bs)))), (m5, .inl (cB, 80, .inl (rI (fun j => sby (sc j)))))] := hD
          refine lv_aload_n hx hb dX5_readsCommand_89 rfl (lv_at hl 0 rfl) ?_
          refine va_get (D := D) (ci := 5) (v := .int (iI (vn_u83))) (C := RX5) (T := TX5) (N := 17) hx hb hts nX5_readsCommand_X5 hown hK hP 0 rfl rfl 12 (by decide) (hts _ kX5_readsCommand_158) (fun _ h9 => h9) rfl dX5_readsCommand_90 ?_
          refine r_if_ge (tgt := 98) hx hb (by omega) dX5_readsCommand_93 (by decide) (fun c_10 => ?_) (fun c_10 => ?_)
          · skip
            obtain rfl : nx2_u83 = nE (tx sc ty) (nE (tx sc ty) (nx + 1) + 1) := by omega
            refine lv_iload_n hx hb dX5_readsCommand_98 rfl (lv_at hl 1 rfl) ?_
            refine r_bipush hx hb dX5_readsCommand_99 (by decide) ?_
            refine r_icmp_ne (tgt := 186) hx hb (by omega) (⟨by decide, by decide⟩) dX5_readsCommand_101 (by decide) (fun c_11 => ?_) (fun c_11 => ?_)
            · skip
              refine lv_aload_n hx hb dX5_readsCommand_186 rfl (lv_at hl 0 rfl) ?_
              refine r_bipush hx hb dX5_readsCommand_187 (by decide) ?_
              refine callVX (n := 1) (As := [.int (iI 59)]) (rest := []) (wc := [(hm, .inr (5, [.ref m1, .ref m2, .ref m3, .int (iI ((pa : Nat) : Int)), .int (iI ((pb : Nat) : Int)), .ref m4, .int (iI ((cp : Nat) : Int)), .ref m5, .int (iI ((ty : Nat) : Int)), .ref m6, .int (iI ((nE (tx sc ty) (nE (tx sc ty) (nx + 1) + 1) : Nat) : Int)), .int (iI (vn_u49)), .int (iI (vn_u83)), .int (iI ((le : Nat) : Int)), .ref m7, .int (iI (bp)), .ref m8])), (m1, .inl (cI, 516, .inl (rI (sF cn en ac cu co au er ki bs)))), (m5, .inl (cB, 80, .inl (rI (fun j => sby (sc j)))))]) (wr := []) (ws2 := fun u => [(hm, .inr (5, [.ref m1, .ref m2, .ref m3, .int (iI ((pa : Nat) : Int)), .int (iI ((pb : Nat) : Int)), .ref m4, .int (iI ((cp : Nat) : Int)), .ref m5, .int (iI ((ty : Nat) : Int)), .ref m6, .int (iI ((u : Nat) : Int)), .int (iI (vn_u49)), .int (iI (vn_u83)), .int (iI ((le : Nat) : Int)), .ref m7, .int (iI (bp)), .ref m8])), (m1, .inl (cI, 516, .inl (rI (sF cn en ac cu co au er ki bs)))), (m5, .inl (cB, 80, .inl (rI (fun j => sby (sc j)))))]) S hE hP hD hS hA (m_takes l D cI cB cZ cO H.size hm m1 m2 m3 m4 m5 m6 m7 m8 pa pb cp ty (nE (tx sc ty) (nE (tx sc ty) (nx + 1) + 1)) vn_u49 vn_u83 le bp cn en ac cu co au er ki bs sc 59 (by first | assumption | (omega)) (by first | assumption | (omega)) (by first | assumption | (omega)) (by first | assumption | (omega))) gX5_readsCommand_X5_takes rfl ⟨rfl, rfl⟩ (by decide +kernel) ⟨Nat.le_of_ble_eq_true rfl, Nat.le_of_ble_eq_true rfl⟩ [0, 1, 2] [] [0, 1, 2] rfl (by decide) rfl (by decide) (by decide) (by decide) (fun u => rfl) 5 0 rfl rfl rfl hl.1 rfl (Nat.le_of_ble_eq_true rfl) dX5_readsCommand_189 ⟨Nat.le_of_ble_eq_true rfl, Nat.le_of_ble_eq_true rfl⟩ (fun u u189p H locs hP hD hS => ?_)
              generalize u = nx2_u189 at u189p hP hD ⊢
              obtain ⟨hat1_u189, hat0_u189⟩ := u189p
              have hat1_u189 : tx sc ty (nE (tx sc ty) (nE (tx sc ty) (nx + 1) + 1)) = 59 → nx2_u189 = (nE (tx sc ty) (nE (tx sc ty) (nx + 1) + 1)) + 1 := hat1_u189
              have hat0_u189 : ¬ tx sc ty (nE (tx sc ty) (nE (tx sc ty) (nx + 1) + 1)) = 59 → nx2_u189 = (nE (tx sc ty) (nE (tx sc ty) (nx + 1) + 1)) := hat0_u189
              have hP : va_P D vwCl [(hm, .inr (5, [.ref m1, .ref m2, .ref m3, .int (iI ((pa : Nat) : Int)), .int (iI ((pb : Nat) : Int)), .ref m4, .int (iI ((cp : Nat) : Int)), .ref m5, .int (iI ((ty : Nat) : Int)), .ref m6, .int (iI ((nx2_u189 : Nat) : Int)), .int (iI (vn_u49)), .int (iI (vn_u83)), .int (iI ((le : Nat) : Int)), .ref m7, .int (iI (bp)), .ref m8])), (m1, .inl (cI, 516, .inl (rI (sF cn en ac cu co au er ki bs)))), (m5, .inl (cB, 80, .inl (rI (fun j => sby (sc j)))))] H := hP
              have hD : va_D A [(hm, .inr (5, [.ref m1, .ref m2, .ref m3, .int (iI ((pa : Nat) : Int)), .int (iI ((pb : Nat) : Int)), .ref m4, .int (iI ((cp : Nat) : Int)), .ref m5, .int (iI ((ty : Nat) : Int)), .ref m6, .int (iI ((nx2_u189 : Nat) : Int)), .int (iI (vn_u49)), .int (iI (vn_u83)), .int (iI ((le : Nat) : Int)), .ref m7, .int (iI (bp)), .ref m8])), (m1, .inl (cI, 516, .inl (rI (sF cn en ac cu co au er ki bs)))), (m5, .inl (cB, 80, .inl (rI (fun j => sby (sc j)))))] := hD
              refine W.eq (g2 := F0 m 192 ls [.int (iI (bI (tx sc ty (nE (tx sc ty) (nE (tx sc ty) (nx + 1) + 1)) = 59)))]) rfl ?_
              exact r_zretX hx hb hr hlocks hP hD hS (nx2_u189, vn_u49, vn_u83, le) (congrArg (fun z => some (Value.int (iI z))) ((bI_c (by omega) : (bI (tx sc ty (nE (tx sc ty) (nE (tx sc ty) (nx + 1) + 1)) = 59)) = (bI (cK (tx sc ty) nx = 1))).symm)) (⟨by (try dsimp only); omega, by (try dsimp only); omega, by (try dsimp only); omega, by (try dsimp only); omega⟩) rfl (bI_01 _) dX5_readsCommand_192
            · skip
              have hcr := @cR_p (tx sc ty) nx (by omega) hdg
              have hll := lts_le (tx sc ty) (nE (tx sc ty) (nx + 1) + 1)
              exfalso; omega
          · skip
            refine r_iconst hx hb dX5_readsCommand_96 ?_
            exact r_zretX hx hb hr hlocks hP hD hS (nx2_u83, vn_u49, vn_u83, le) (congrArg (fun z => some (Value.int (iI z))) (((bI_f (by omega)).symm : 0 = (bI (cK (tx sc ty) nx = 1))).symm)) (⟨by (try dsimp only); omega, by (try dsimp only); omega, by (try dsimp only); omega, by (try dsimp only); omega⟩) rfl (Or.inl rfl) dX5_readsCommand_97
        · skip
          refine r_iconst hx hb dX5_readsCommand_79 ?_
          exact r_zretX hx hb hr hlocks hP hD hS (nx2_u73, vn_u49, se, le) (congrArg (fun z => some (Value.int (iI z))) (((bI_f (by omega)).symm : 0 = (bI (cK (tx sc ty) nx = 1))).symm)) (⟨by (try dsimp only); omega, by (try dsimp only); omega, by (try dsimp only); omega, by (try dsimp only); omega⟩) rfl (Or.inl rfl) dX5_readsCommand_80
    · skip
      have hcr := @cR_n (tx sc ty) nx (by omega) (by omega)
      refine r_iconst hx hb dX5_readsCommand_62 ?_
      exact r_zretX hx hb hr hlocks hP hD hS (nx2_u49, vn_u49, se, le) (congrArg (fun z => some (Value.int (iI z))) (((bI_f (by omega)).symm : 0 = (bI (cK (tx sc ty) nx = 1))).symm)) (⟨by (try dsimp only); omega, by (try dsimp only); omega, by (try dsimp only); omega, by (try dsimp only); omega⟩) rfl (Or.inl rfl) dX5_readsCommand_63
  refine lv_iload_n hx hb dX5_readsCommand_5 rfl (lv_at hl 0 rfl) ?_
  refine r_bipush hx hb dX5_readsCommand_6 (by decide) ?_
  refine r_icmp_eq (tgt := 37) hx hb (by omega) (⟨by decide, by decide⟩) dX5_readsCommand_8 (by decide) (fun c_12 => ?_) (fun c_12 => ?_)
  · skip
    exact join_37 ls (by omega) (lv_sub hl [1, 0] rfl)
  · skip
    refine lv_iload_n hx hb dX5_readsCommand_11 rfl (lv_at hl 0 rfl) ?_
    refine r_bipush hx hb dX5_readsCommand_12 (by decide) ?_
    refine r_icmp_eq (tgt := 37) hx hb (by omega) (⟨by decide, by decide⟩) dX5_readsCommand_14 (by decide) (fun c_13 => ?_) (fun c_13 => ?_)
    · skip
      exact join_37 ls (by omega) (lv_sub hl [1, 0] rfl)
    · skip
      refine lv_iload_n hx hb dX5_readsCommand_17 rfl (lv_at hl 0 rfl) ?_
      refine r_bipush hx hb dX5_readsCommand_18 (by decide) ?_
      refine r_icmp_eq (tgt := 37) hx hb (by omega) (⟨by decide, by decide⟩) dX5_readsCommand_20 (by decide) (fun c_14 => ?_) (fun c_14 => ?_)
      · skip
        exact join_37 ls (by omega) (lv_sub hl [1, 0] rfl)
      · skip
        refine lv_iload_n hx hb dX5_readsCommand_23 rfl (lv_at hl 0 rfl) ?_
        refine r_bipush hx hb dX5_readsCommand_24 (by decide) ?_
        refine r_icmp_eq (tgt := 37) hx hb (by omega) (⟨by decide, by decide⟩) dX5_readsCommand_26 (by decide) (fun c_15 => ?_) (fun c_15 => ?_)
        · skip
          exact join_37 ls (by omega) (lv_sub hl [1, 0] rfl)
        · skip
          refine lv_iload_n hx hb dX5_readsCommand_29 rfl (lv_at hl 0 rfl) ?_
          refine r_bipush hx hb dX5_readsCommand_30 (by decide) ?_
          refine r_icmp_eq (tgt := 37) hx hb (by omega) (⟨by decide, by decide⟩) dX5_readsCommand_32 (by decide) (fun c_16 => ?_) (fun c_16 => ?_)
          · skip
            exact join_37 ls (by omega) (lv_sub hl [1, 0] rfl)
          · skip
            have hcr := @cR_s (tx sc ty) nx (by omega)
            refine r_iconst hx hb dX5_readsCommand_35 ?_
            exact r_zretX hx hb hr hlocks hP hD hS (nx, fi, se, le) (congrArg (fun z => some (Value.int (iI z))) (((bI_f (by omega)).symm : 0 = (bI (cK (tx sc ty) nx = 1))).symm)) (⟨by (try dsimp only); omega, by (try dsimp only); omega, by (try dsimp only); omega, by (try dsimp only); omega⟩) rfl (Or.inl rfl) dX5_readsCommand_36
