theorem kX3_setGoal_27 : Cond.fieldLink RX3 27 "PricedUndo$Search" "kind" "I" ∈ wsX3_setGoal := List.mem_of_getElem? (i := 1) (by decide +kernel)
theorem nX3_setGoal_X3 : ∀ w ∈ u_ws RX3 TX3 12, w ∈ wsX3_setGoal := in_lay 3 (by decide +kernel)
theorem kX3_setGoal_31 : Cond.fieldLink RX3 31 "PricedUndo$Search" "value" "I" ∈ wsX3_setGoal := List.mem_of_getElem? (i := 2) (by decide +kernel)
set_option maxHeartbeats 4000000 in
set_option maxRecDepth 100000 in
theorem s_setGoal (l : Launch) (D : va_G) (cI cB cZ cO : ClassId) (sz : Nat) (hq : Nat) (b1 : Nat) (b2 : Nat) (b3 : Nat) (b4 : Nat) (b5 : Nat) (np : Nat) (sed : Nat) (sac : Nat) (kd : Nat) (va : Nat) (bs9 : Nat) (bp9 : Nat) (k1 : Nat) (v1 : Nat)  : Met l yX3_setGoal wsX3_setGoal ({ frames := 0, cells := 0, slots := 0, locals := 0 }) (va_Pc [.ref hq, .int (iI ((k1 : Nat) : Int)), .int (iI ((v1 : Nat) : Int))] (RW D cI cB cZ cO sz [(hq, .inr (3, [.ref b1, .ref b2, .ref b3, .ref b4, .int (iI ((np : Nat) : Int)), .ref b5, .int (iI ((sed : Nat) : Int)), .int (iI ((sac : Nat) : Int)), .int (iI ((kd : Nat) : Int)), .int (iI ((va : Nat) : Int)), .int (iI ((bs9 : Nat) : Int)), .int (iI ((bp9 : Nat) : Int))]))])) (QX D (S := Unit) (fun u => none) (fun u => True) (fun u => [(hq, .inr (3, [.ref b1, .ref b2, .ref b3, .ref b4, .int (iI ((np : Nat) : Int)), .ref b5, .int (iI ((sed : Nat) : Int)), .int (iI ((sac : Nat) : Int)), .int (iI ((k1 : Nat) : Int)), .int (iI ((v1 : Nat) : Int)), .int (iI ((bs9 : Nat) : Int)), .int (iI ((bp9 : Nat) : Int))]))]) (va_A [(hq, .inr (3, [.ref b1, .ref b2, .ref b3, .ref b4, .int (iI ((np : Nat) : Int)), .ref b5, .int (iI ((sed : Nat) : Int)), .int (iI ((sac : Nat) : Int)), .int (iI ((kd : Nat) : Int)), .int (iI ((va : Nat) : Int)), .int (iI ((bs9 : Nat) : Int)), .int (iI ((bp9 : Nat) : Int))]))] sz)) 0 0 (va_A [(hq, .inr (3, [.ref b1, .ref b2, .ref b3, .ref b4, .int (iI ((np : Nat) : Int)), .ref b5, .int (iI ((sed : Nat) : Int)), .int (iI ((sac : Nat) : Int)), .int (iI ((kd : Nat) : Int)), .int (iI ((va : Nat) : Int)), .int (iI ((bs9 : Nat) : Int)), .int (iI ((bp9 : Nat) : Int))]))] sz) := by
  refine startW (cc := cX3_setGoal) (maxL := 3) (ret := none) (by decide) rfl (Nat.le_of_ble_eq_true rfl) ?_
  intro p e s m below meth c S hr hlocks hE hP A hD hA hS ls hl
  have hx := S.1
  have hb := S.2.1
  have hown := S.2.2.2.1
  have hts := S.2.2.2.2
  have hK := hE.1
  have hl : lv_has ls 3 [(0, .ref hq), (1, .int (iI ((k1 : Nat) : Int))), (2, .int (iI ((v1 : Nat) : Int)))] := hl
  refine lv_aload_n hx hb dX3_setGoal_0 rfl (lv_at hl 0 rfl) ?_
  refine lv_iload_n hx hb dX3_setGoal_1 rfl (lv_at hl 1 rfl) ?_
  refine va_put (D := D) (ci := 3) (v := .int (iI ((k1 : Nat) : Int))) (ty := .int) (C := RX3) (T := TX3) (N := 12) hx hb hts nX3_setGoal_X3 tyX3 tyX3_ok nmX3 hown hK hP hD hS 0 rfl rfl 8 (by decide) (hts _ kX3_setGoal_27) (fun _ h9 => h9) rfl (by decide +kernel) rfl rfl (Nat.le_of_ble_eq_true rfl) dX3_setGoal_2 (fun H locs hP hD hS => ?_)
  have hP : va_P D vwCl [(hq, .inr (3, [.ref b1, .ref b2, .ref b3, .ref b4, .int (iI ((np : Nat) : Int)), .ref b5, .int (iI ((sed : Nat) : Int)), .int (iI ((sac : Nat) : Int)), .int (iI ((k1 : Nat) : Int)), .int (iI ((va : Nat) : Int)), .int (iI ((bs9 : Nat) : Int)), .int (iI ((bp9 : Nat) : Int))]))] H := hP
  have hD : va_D A [(hq, .inr (3, [.ref b1, .ref b2, .ref b3, .ref b4, .int (iI ((np : Nat) : Int)), .ref b5, .int (iI ((sed : Nat) : Int)), .int (iI ((sac : Nat) : Int)), .int (iI ((k1 : Nat) : Int)), .int (iI ((va : Nat) : Int)), .int (iI ((bs9 : Nat) : Int)), .int (iI ((bp9 : Nat) : Int))]))] := hD
  refine lv_aload_n hx hb dX3_setGoal_5 rfl (lv_at hl 0 rfl) ?_
  refine lv_iload_n hx hb dX3_setGoal_6 rfl (lv_at hl 2 rfl) ?_
  refine va_put (D := D) (ci := 3) (v := .int (iI ((v1 : Nat) : Int))) (ty := .int) (C := RX3) (T := TX3) (N := 12) hx hb hts nX3_setGoal_X3 tyX3 tyX3_ok nmX3 hown hK hP hD hS 0 rfl rfl 9 (by decide) (hts _ kX3_setGoal_31) (fun _ h9 => h9) rfl (by decide +kernel) rfl rfl (Nat.le_of_ble_eq_true rfl) dX3_setGoal_7 (fun H locs hP hD hS => ?_)
  have hP : va_P D vwCl [(hq, .inr (3, [.ref b1, .ref b2, .ref b3, .ref b4, .int (iI ((np : Nat) : Int)), .ref b5, .int (iI ((sed : Nat) : Int)), .int (iI ((sac : Nat) : Int)), .int (iI ((k1 : Nat) : Int)), .int (iI ((v1 : Nat) : Int)), .int (iI ((bs9 : Nat) : Int)), .int (iI ((bp9 : Nat) : Int))]))] H := hP
  have hD : va_D A [(hq, .inr (3, [.ref b1, .ref b2, .ref b3, .ref b4, .int (iI ((np : Nat) : Int)), .ref b5, .int (iI ((sed : Nat) : Int)), .int (iI ((sac : Nat) : Int)), .int (iI ((k1 : Nat) : Int)), .int (iI ((v1 : Nat) : Int)), .int (iI ((bs9 : Nat) : Int)), .int (iI ((bp9 : Nat) : Int))]))] := hD
  exact r_vretX hx hb hr hlocks hP hD hS () rfl (trivial) rfl dX3_setGoal_10

theorem kX3_matters_43 : Cond.fieldLink RX3 43 "PricedUndo$Search" "active" "I" ∈ wsX3_matters := List.mem_of_getElem? (i := 1) (by decide +kernel)
theorem nX3_matters_X3 : ∀ w ∈ u_ws RX3 TX3 12, w ∈ wsX3_matters := in_lay 4 (by decide +kernel)
theorem kX3_matters_27 : Cond.fieldLink RX3 27 "PricedUndo$Search" "kind" "I" ∈ wsX3_matters := List.mem_of_getElem? (i := 2) (by decide +kernel)
theorem kX3_matters_31 : Cond.fieldLink RX3 31 "PricedUndo$Search" "value" "I" ∈ wsX3_matters := List.mem_of_getElem? (i := 3) (by decide +kernel)
set_option maxHeartbeats 4000000 in
set_option maxRecDepth 100000 in
theorem s_matters (l : Launch) (D : va_G) (cI cB cZ cO : ClassId) (hq : Nat) (b1 : Nat) (b2 : Nat) (b3 : Nat) (b4 : Nat) (b5 : Nat) (np : Nat) (sed : Nat) (sac : Nat) (kd : Nat) (va : Nat) (bs9 : Nat) (bp9 : Nat) (x1 : Nat) (w1 : Nat) (hx1 : x1 < 65536) (hw1 : w1 < 65536) (hkd : kd ≤ 3) (hva : va ≤ 126) : Met l yX3_matters wsX3_matters ({ frames := 0, cells := 0, slots := 0, locals := 0 }) (va_Pc [.ref hq, .int (iI ((x1 : Nat) : Int)), .int (iI ((w1 : Nat) : Int))] (RO D cI cB cZ cO [(hq, .inr (3, [.ref b1, .ref b2, .ref b3, .ref b4, .int (iI ((np : Nat) : Int)), .ref b5, .int (iI ((sed : Nat) : Int)), .int (iI ((sac : Nat) : Int)), .int (iI ((kd : Nat) : Int)), .int (iI ((va : Nat) : Int)), .int (iI ((bs9 : Nat) : Int)), .int (iI ((bp9 : Nat) : Int))]))])) (QO (bI (nd w1 sac = 0 ∧ (kd = 1 → x1 = va)))) 0 0 (fun _ => False) := by
  refine startO (cc := cX3_matters) (maxL := 3) (ret := (some .boolean)) (by decide) rfl (Nat.le_of_ble_eq_true rfl) ?_
  intro p e s m below meth c S hr hlocks hE hP ls hl
  have hx := S.1
  have hb := S.2.1
  have hown := S.2.2.2.1
  have hts := S.2.2.2.2
  have hK := hE.1
  have hl : lv_has ls 3 [(0, .ref hq), (1, .int (iI ((x1 : Nat) : Int))), (2, .int (iI ((w1 : Nat) : Int)))] := hl
  have hnl := nd_le w1 sac
  refine lv_iload_n hx hb dX3_matters_0 rfl (lv_at hl 2 rfl) ?_
  refine lv_aload_n hx hb dX3_matters_1 rfl (lv_at hl 0 rfl) ?_
  refine va_get (D := D) (ci := 3) (v := .int (iI ((sac : Nat) : Int))) (C := RX3) (T := TX3) (N := 12) hx hb hts nX3_matters_X3 hown hK hP 0 rfl rfl 7 (by decide) (hts _ kX3_matters_43) (fun _ h9 => h9) rfl dX3_matters_2 ?_
  refine r_iconst hx hb dX3_matters_5 ?_
  refine r_inot (v := (-1 - ((sac : Nat) : Int))) hx hb (rfl) dX3_matters_6 ?_
  refine r_iandnot hx hb (w1) (sac) (rfl) rfl dX3_matters_7 ?_
  refine r_if_ne (tgt := 31) hx hb (by first | omega | (refine ⟨by omega, fun h9 => by omega⟩) | (intro h9; have h8 := h9.1; have h7 := h9.2; omega)) dX3_matters_8 (by decide) (fun c_1 => ?_) (fun c_1 => ?_)
  · skip
    refine r_iconst hx hb dX3_matters_31 ?_
    exact r_zretO hx hb hr hlocks ((bI_f (by first | omega | (refine ⟨by omega, fun h9 => by omega⟩) | (intro h9; have h8 := h9.1; have h7 := h9.2; omega))).symm) (Or.inl rfl) dX3_matters_32
  · skip
    refine lv_aload_n hx hb dX3_matters_11 rfl (lv_at hl 0 rfl) ?_
    refine va_get (D := D) (ci := 3) (v := .int (iI ((kd : Nat) : Int))) (C := RX3) (T := TX3) (N := 12) hx hb hts nX3_matters_X3 hown hK hP 0 rfl rfl 8 (by decide) (hts _ kX3_matters_27) (fun _ h9 => h9) rfl dX3_matters_12 ?_
    refine r_iconst hx hb dX3_matters_15 ?_
    refine r_icmp_ne (tgt := 27) hx hb (by first | omega | (refine ⟨by omega, fun h9 => by omega⟩) | (intro h9; have h8 := h9.1; have h7 := h9.2; omega)) (⟨by decide, by decide⟩) dX3_matters_16 (by decide) (fun c_2 => ?_) (fun c_2 => ?_)
    · skip
      refine r_iconst hx hb dX3_matters_27 ?_
      refine lv_goto (tgt := 32) hx hb dX3_matters_28 (by decide) ?_
      exact r_zretO hx hb hr hlocks ((bI_t (by first | omega | (refine ⟨by omega, fun h9 => by omega⟩) | (intro h9; have h8 := h9.1; have h7 := h9.2; omega))).symm) (Or.inr rfl) dX3_matters_32
    · skip
      refine lv_iload_n hx hb dX3_matters_19 rfl (lv_at hl 1 rfl) ?_
      refine lv_aload_n hx hb dX3_matters_20 rfl (lv_at hl 0 rfl) ?_
      refine va_get (D := D) (ci := 3) (v := .int (iI ((va : Nat) : Int))) (C := RX3) (T := TX3) (N := 12) hx hb hts nX3_matters_X3 hown hK hP 0 rfl rfl 9 (by decide) (hts _ kX3_matters_31) (fun _ h9 => h9) rfl dX3_matters_21 ?_
      refine r_icmp_ne (tgt := 31) hx hb (by first | omega | (refine ⟨by omega, fun h9 => by omega⟩) | (intro h9; have h8 := h9.1; have h7 := h9.2; omega)) (by first | omega | (refine ⟨by omega, fun h9 => by omega⟩) | (intro h9; have h8 := h9.1; have h7 := h9.2; omega)) dX3_matters_24 (by decide) (fun c_3 => ?_) (fun c_3 => ?_)
      · skip
        refine r_iconst hx hb dX3_matters_31 ?_
        exact r_zretO hx hb hr hlocks ((bI_f (by first | omega | (refine ⟨by omega, fun h9 => by omega⟩) | (intro h9; have h8 := h9.1; have h7 := h9.2; omega))).symm) (Or.inl rfl) dX3_matters_32
      · skip
        refine r_iconst hx hb dX3_matters_27 ?_
        refine lv_goto (tgt := 32) hx hb dX3_matters_28 (by decide) ?_
        exact r_zretO hx hb hr hlocks ((bI_t (by first | omega | (refine ⟨by omega, fun h9 => by omega⟩) | (intro h9; have h8 := h9.1; have h7 := h9.2; omega))).symm) (Or.inr rfl) dX3_matters_32

theorem kX3_addToPieces_52 : Cond.fieldLink RX3 52 "PricedUndo$Search" "pieces" "I" ∈ wsX3_addToPieces := List.mem_of_getElem? (i := 1) (by decide +kernel)
theorem nX3_addToPieces_X3 : ∀ w ∈ u_ws RX3 TX3 12, w ∈ wsX3_addToPieces := in_lay 6 (by decide +kernel)
theorem kX3_addToPieces_9 : Cond.fieldLink RX3 9 "PricedUndo$Search" "owners" "[I" ∈ wsX3_addToPieces := List.mem_of_getElem? (i := 2) (by decide +kernel)
theorem kX3_addToPieces_15 : Cond.fieldLink RX3 15 "PricedUndo$Search" "hiders" "[I" ∈ wsX3_addToPieces := List.mem_of_getElem? (i := 3) (by decide +kernel)
theorem kX3_addToPieces_18 : Cond.fieldLink RX3 18 "PricedUndo$Search" "sizes" "[I" ∈ wsX3_addToPieces := List.mem_of_getElem? (i := 4) (by decide +kernel)
theorem kX3_addToPieces_21 : Cond.fieldLink RX3 21 "PricedUndo$Search" "firstCodes" "[I" ∈ wsX3_addToPieces := List.mem_of_getElem? (i := 5) (by decide +kernel)
set_option maxHeartbeats 4000000 in
set_option maxRecDepth 100000 in
theorem s_addToPieces (l : Launch) (D : va_G) (cI cB cZ cO : ClassId) (sz : Nat) (hq : Nat) (b1 : Nat) (b2 : Nat) (b3 : Nat) (b4 : Nat) (b5 : Nat) (np : Nat) (sed : Nat) (sac : Nat) (kd : Nat) (va : Nat) (bs9 : Nat) (bp9 : Nat) (po : Nat → Nat) (ph : Nat → Nat) (ps : Nat → Nat) (pf : Nat → Nat) (w1 : Nat) (h1 : Nat) (x1 : Nat) (hnp : np < 160) (hpo : ∀ k, po k < 65536) (hph : ∀ k, ph k < 65536) (hw1 : w1 < 65536) (hh1 : h1 < 65536) : Met l yX3_addToPieces wsX3_addToPieces ({ frames := 0, cells := 0, slots := 0, locals := 0 }) (va_Pc [.ref hq, .int (iI ((w1 : Nat) : Int)), .int (iI ((h1 : Nat) : Int)), .int (iI ((x1 : Nat) : Int))] (RW D cI cB cZ cO sz [(hq, .inr (3, [.ref b1, .ref b2, .ref b3, .ref b4, .int (iI ((np : Nat) : Int)), .ref b5, .int (iI ((sed : Nat) : Int)), .int (iI ((sac : Nat) : Int)), .int (iI ((kd : Nat) : Int)), .int (iI ((va : Nat) : Int)), .int (iI ((bs9 : Nat) : Int)), .int (iI ((bp9 : Nat) : Int))])), (b1, .inl (cI, 160, .inl (rN (po)))), (b2, .inl (cI, 160, .inl (rN (ph)))), (b3, .inl (cI, 160, .inl (rN (ps)))), (b4, .inl (cI, 160, .inl (rN (pf))))])) (QX D (S := (Nat → Nat) × (Nat → Nat) × (Nat → Nat) × (Nat → Nat) × Nat) (fun u => none) (fun u => (ADD po ph ps pf np w1 h1 x1 u.1 u.2.1 u.2.2.1 u.2.2.2.1 u.2.2.2.2)) (fun u => [(hq, .inr (3, [.ref b1, .ref b2, .ref b3, .ref b4, .int (iI ((u.2.2.2.2 : Nat) : Int)), .ref b5, .int (iI ((sed : Nat) : Int)), .int (iI ((sac : Nat) : Int)), .int (iI ((kd : Nat) : Int)), .int (iI ((va : Nat) : Int)), .int (iI ((bs9 : Nat) : Int)), .int (iI ((bp9 : Nat) : Int))])), (b1, .inl (cI, 160, .inl (rN (u.1)))), (b2, .inl (cI, 160, .inl (rN (u.2.1)))), (b3, .inl (cI, 160, .inl (rN (u.2.2.1)))), (b4, .inl (cI, 160, .inl (rN (u.2.2.2.1))))]) (va_A [(hq, .inr (3, [.ref b1, .ref b2, .ref b3, .ref b4, .int (iI ((np : Nat) : Int)), .ref b5, .int (iI ((sed : Nat) : Int)), .int (iI ((sac : Nat) : Int)), .int (iI ((kd : Nat) : Int)), .int (iI ((va : Nat) : Int)), .int (iI ((bs9 : Nat) : Int)), .int (iI ((bp9 : Nat) : Int))])), (b1, .inl (cI, 160, .inl (rN (po)))), (b2, .inl (cI, 160, .inl (rN (ph)))), (b3, .inl (cI, 160, .inl (rN (ps)))), (b4, .inl (cI, 160, .inl (rN (pf))))] sz)) 0 0 (va_A [(hq, .inr (3, [.ref b1, .ref b2, .ref b3, .ref b4, .int (iI ((np : Nat) : Int)), .ref b5, .int (iI ((sed : Nat) : Int)), .int (iI ((sac : Nat) : Int)), .int (iI ((kd : Nat) : Int)), .int (iI ((va : Nat) : Int)), .int (iI ((bs9 : Nat) : Int)), .int (iI ((bp9 : Nat) : Int))])), (b1, .inl (cI, 160, .inl (rN (po)))), (b2, .inl (cI, 160, .inl (rN (ph)))), (b3, .inl (cI, 160, .inl (rN (ps)))), (b4, .inl (cI, 160, .inl (rN (pf))))] sz) := by
  refine startW (cc := cX3_addToPieces) (maxL := 5) (ret := none) (by decide) rfl (Nat.le_of_ble_eq_true rfl) ?_
  intro p e s m below meth c S hr hlocks hE hP A hD hA hS ls hl
  have hx := S.1
  have hb := S.2.1
  have hown := S.2.2.2.1
  have hts := S.2.2.2.2
  have hK := hE.1
  have hl : lv_has ls 5 [(0, .ref hq), (1, .int (iI ((w1 : Nat) : Int))), (2, .int (iI ((h1 : Nat) : Int))), (3, .int (iI ((x1 : Nat) : Int)))] := hl
  have hpn := hpo (((np : Nat) : Int) - 1).toNat
  have hhn := hph (((np : Nat) : Int) - 1).toNat
  have hnn : (((np : Nat) : Int) - 1).toNat = np - 1 := by omega
  have hpn1 := hpo (np - 1)
  have hhn1 := hph (np - 1)
  refine lv_aload_n hx hb dX3_addToPieces_0 rfl (lv_at hl 0 rfl) ?_
  refine va_get (D := D) (ci := 3) (v := .int (iI ((np : Nat) : Int))) (C := RX3) (T := TX3) (N := 12) hx hb hts nX3_addToPieces_X3 hown hK hP 0 rfl rfl 4 (by decide) (hts _ kX3_addToPieces_52) (fun _ h9 => h9) rfl dX3_addToPieces_1 ?_
  refine r_iconst hx hb dX3_addToPieces_4 ?_
  refine r_isub (v := (((np : Nat) : Int) - 1)) hx hb (rfl) dX3_addToPieces_5 ?_
  refine lv_istore (lv' := [(4, .int (iI (((np : Nat) : Int) - 1))), (0, .ref hq), (1, .int (iI ((w1 : Nat) : Int))), (2, .int (iI ((h1 : Nat) : Int))), (3, .int (iI ((x1 : Nat) : Int)))]) hx hb dX3_addToPieces_6 hl (by decide) rfl (fun ls hl => ?_)
  refine lv_iload hx hb dX3_addToPieces_8 (lv_at hl 0 rfl) ?_
  refine r_if_lt (tgt := 49) hx hb (by omega) dX3_addToPieces_10 (by decide) (fun c_1 => ?_) (fun c_1 => ?_)
  · skip
    refine lv_aload_n hx hb dX3_addToPieces_49 rfl (lv_at hl 1 rfl) ?_
    refine va_get (D := D) (ci := 3) (v := .int (iI ((np : Nat) : Int))) (C := RX3) (T := TX3) (N := 12) hx hb hts nX3_addToPieces_X3 hown hK hP 0 rfl rfl 4 (by decide) (hts _ kX3_addToPieces_52) (fun _ h9 => h9) rfl dX3_addToPieces_50 ?_
    refine r_sipush hx hb dX3_addToPieces_53 (by decide) ?_
    refine r_icmp_ge (tgt := 109) hx hb (by omega) (⟨by decide, by decide⟩) dX3_addToPieces_56 (by decide) (fun c_2 => ?_) (fun c_2 => ?_)
    · skip
      exact r_vretX hx hb hr hlocks hP hD hS (po, ph, ps, pf, np) rfl (by first | exact Or.inl ⟨⟨by omega, by omega, by omega⟩, rfl, rfl, rfl, rfl, rfl⟩ | exact Or.inr ⟨fun q => by have q1 := q.1; have q2 := q.2.1; have q3 := q.2.2; omega, rfl, rfl, rfl, rfl, rfl⟩ | (exfalso; omega)) rfl dX3_addToPieces_109
    · skip
      refine lv_aload_n hx hb dX3_addToPieces_59 rfl (lv_at hl 1 rfl) ?_
      refine va_get (D := D) (ci := 3) (v := .ref b1) (C := RX3) (T := TX3) (N := 12) hx hb hts nX3_addToPieces_X3 hown hK hP 0 rfl rfl 0 (by decide) (hts _ kX3_addToPieces_9) (fun _ h9 => h9) rfl dX3_addToPieces_60 ?_
      refine lv_aload_n hx hb dX3_addToPieces_63 rfl (lv_at hl 1 rfl) ?_
      refine va_get (D := D) (ci := 3) (v := .int (iI ((np : Nat) : Int))) (C := RX3) (T := TX3) (N := 12) hx hb hts nX3_addToPieces_X3 hown hK hP 0 rfl rfl 4 (by decide) (hts _ kX3_addToPieces_52) (fun _ h9 => h9) rfl dX3_addToPieces_64 ?_
      refine lv_iload_n hx hb dX3_addToPieces_67 rfl (lv_at hl 2 rfl) ?_
      refine r_iastN (v := (w1)) hx hb hK hP hD hS 1 0 rfl rfl (np) (rfl) (by omega) (by decide) dX3_addToPieces_68 (fun H locs hP hD hS => ?_)
      have hP : va_P D vwCl [(hq, .inr (3, [.ref b1, .ref b2, .ref b3, .ref b4, .int (iI ((np : Nat) : Int)), .ref b5, .int (iI ((sed : Nat) : Int)), .int (iI ((sac : Nat) : Int)), .int (iI ((kd : Nat) : Int)), .int (iI ((va : Nat) : Int)), .int (iI ((bs9 : Nat) : Int)), .int (iI ((bp9 : Nat) : Int))])), (b1, .inl (cI, 160, .inl (rN (up po np (w1))))), (b2, .inl (cI, 160, .inl (rN (ph)))), (b3, .inl (cI, 160, .inl (rN (ps)))), (b4, .inl (cI, 160, .inl (rN (pf))))] H := hP
      have hD : va_D A [(hq, .inr (3, [.ref b1, .ref b2, .ref b3, .ref b4, .int (iI ((np : Nat) : Int)), .ref b5, .int (iI ((sed : Nat) : Int)), .int (iI ((sac : Nat) : Int)), .int (iI ((kd : Nat) : Int)), .int (iI ((va : Nat) : Int)), .int (iI ((bs9 : Nat) : Int)), .int (iI ((bp9 : Nat) : Int))])), (b1, .inl (cI, 160, .inl (rN (up po np (w1))))), (b2, .inl (cI, 160, .inl (rN (ph)))), (b3, .inl (cI, 160, .inl (rN (ps)))), (b4, .inl (cI, 160, .inl (rN (pf))))] := hD
      refine lv_aload_n hx hb dX3_addToPieces_69 rfl (lv_at hl 1 rfl) ?_
      refine va_get (D := D) (ci := 3) (v := .ref b2) (C := RX3) (T := TX3) (N := 12) hx hb hts nX3_addToPieces_X3 hown hK hP 0 rfl rfl 1 (by decide) (hts _ kX3_addToPieces_15) (fun _ h9 => h9) rfl dX3_addToPieces_70 ?_
      refine lv_aload_n hx hb dX3_addToPieces_73 rfl (lv_at hl 1 rfl) ?_
      refine va_get (D := D) (ci := 3) (v := .int (iI ((np : Nat) : Int))) (C := RX3) (T := TX3) (N := 12) hx hb hts nX3_addToPieces_X3 hown hK hP 0 rfl rfl 4 (by decide) (hts _ kX3_addToPieces_52) (fun _ h9 => h9) rfl dX3_addToPieces_74 ?_
      refine lv_iload_n hx hb dX3_addToPieces_77 rfl (lv_at hl 3 rfl) ?_
      refine r_iastN (v := (h1)) hx hb hK hP hD hS 2 0 rfl rfl (np) (rfl) (by omega) (by decide) dX3_addToPieces_78 (fun H locs hP hD hS => ?_)
      have hP : va_P D vwCl [(hq, .inr (3, [.ref b1, .ref b2, .ref b3, .ref b4, .int (iI ((np : Nat) : Int)), .ref b5, .int (iI ((sed : Nat) : Int)), .int (iI ((sac : Nat) : Int)), .int (iI ((kd : Nat) : Int)), .int (iI ((va : Nat) : Int)), .int (iI ((bs9 : Nat) : Int)), .int (iI ((bp9 : Nat) : Int))])), (b1, .inl (cI, 160, .inl (rN (up po np (w1))))), (b2, .inl (cI, 160, .inl (rN (up ph np (h1))))), (b3, .inl (cI, 160, .inl (rN (ps)))), (b4, .inl (cI, 160, .inl (rN (pf))))] H := hP
      have hD : va_D A [(hq, .inr (3, [.ref b1, .ref b2, .ref b3, .ref b4, .int (iI ((np : Nat) : Int)), .ref b5, .int (iI ((sed : Nat) : Int)), .int (iI ((sac : Nat) : Int)), .int (iI ((kd : Nat) : Int)), .int (iI ((va : Nat) : Int)), .int (iI ((bs9 : Nat) : Int)), .int (iI ((bp9 : Nat) : Int))])), (b1, .inl (cI, 160, .inl (rN (up po np (w1))))), (b2, .inl (cI, 160, .inl (rN (up ph np (h1))))), (b3, .inl (cI, 160, .inl (rN (ps)))), (b4, .inl (cI, 160, .inl (rN (pf))))] := hD
      refine lv_aload_n hx hb dX3_addToPieces_79 rfl (lv_at hl 1 rfl) ?_
      refine va_get (D := D) (ci := 3) (v := .ref b3) (C := RX3) (T := TX3) (N := 12) hx hb hts nX3_addToPieces_X3 hown hK hP 0 rfl rfl 2 (by decide) (hts _ kX3_addToPieces_18) (fun _ h9 => h9) rfl dX3_addToPieces_80 ?_
      refine lv_aload_n hx hb dX3_addToPieces_83 rfl (lv_at hl 1 rfl) ?_
      refine va_get (D := D) (ci := 3) (v := .int (iI ((np : Nat) : Int))) (C := RX3) (T := TX3) (N := 12) hx hb hts nX3_addToPieces_X3 hown hK hP 0 rfl rfl 4 (by decide) (hts _ kX3_addToPieces_52) (fun _ h9 => h9) rfl dX3_addToPieces_84 ?_
      refine r_iconst hx hb dX3_addToPieces_87 ?_
      refine r_iastN (v := (1)) hx hb hK hP hD hS 3 0 rfl rfl (np) (rfl) (by omega) (by decide) dX3_addToPieces_88 (fun H locs hP hD hS => ?_)
      have hP : va_P D vwCl [(hq, .inr (3, [.ref b1, .ref b2, .ref b3, .ref b4, .int (iI ((np : Nat) : Int)), .ref b5, .int (iI ((sed : Nat) : Int)), .int (iI ((sac : Nat) : Int)), .int (iI ((kd : Nat) : Int)), .int (iI ((va : Nat) : Int)), .int (iI ((bs9 : Nat) : Int)), .int (iI ((bp9 : Nat) : Int))])), (b1, .inl (cI, 160, .inl (rN (up po np (w1))))), (b2, .inl (cI, 160, .inl (rN (up ph np (h1))))), (b3, .inl (cI, 160, .inl (rN (up ps np (1))))), (b4, .inl (cI, 160, .inl (rN (pf))))] H := hP
      have hD : va_D A [(hq, .inr (3, [.ref b1, .ref b2, .ref b3, .ref b4, .int (iI ((np : Nat) : Int)), .ref b5, .int (iI ((sed : Nat) : Int)), .int (iI ((sac : Nat) : Int)), .int (iI ((kd : Nat) : Int)), .int (iI ((va : Nat) : Int)), .int (iI ((bs9 : Nat) : Int)), .int (iI ((bp9 : Nat) : Int))])), (b1, .inl (cI, 160, .inl (rN (up po np (w1))))), (b2, .inl (cI, 160, .inl (rN (up ph np (h1))))), (b3, .inl (cI, 160, .inl (rN (up ps np (1))))), (b4, .inl (cI, 160, .inl (rN (pf))))] := hD
      refine lv_aload_n hx hb dX3_addToPieces_89 rfl (lv_at hl 1 rfl) ?_
      refine va_get (D := D) (ci := 3) (v := .ref b4) (C := RX3) (T := TX3) (N := 12) hx hb hts nX3_addToPieces_X3 hown hK hP 0 rfl rfl 3 (by decide) (hts _ kX3_addToPieces_21) (fun _ h9 => h9) rfl dX3_addToPieces_90 ?_
      refine lv_aload_n hx hb dX3_addToPieces_93 rfl (lv_at hl 1 rfl) ?_
      refine va_get (D := D) (ci := 3) (v := .int (iI ((np : Nat) : Int))) (C := RX3) (T := TX3) (N := 12) hx hb hts nX3_addToPieces_X3 hown hK hP 0 rfl rfl 4 (by decide) (hts _ kX3_addToPieces_52) (fun _ h9 => h9) rfl dX3_addToPieces_94 ?_
      refine lv_iload_n hx hb dX3_addToPieces_97 rfl (lv_at hl 4 rfl) ?_
      refine r_iastN (v := (x1)) hx hb hK hP hD hS 4 0 rfl rfl (np) (rfl) (by omega) (by decide) dX3_addToPieces_98 (fun H locs hP hD hS => ?_)
      have hP : va_P D vwCl [(hq, .inr (3, [.ref b1, .ref b2, .ref b3, .ref b4, .int (iI ((np : Nat) : Int)), .ref b5, .int (iI ((sed : Nat) : Int)), .int (iI ((sac : Nat) : Int)), .int (iI ((kd : Nat) : Int)), .int (iI ((va : Nat) : Int)), .int (iI ((bs9 : Nat) : Int)), .int (iI ((bp9 : Nat) : Int))])), (b1, .inl (cI, 160, .inl (rN (up po np (w1))))), (b2, .inl (cI, 160, .inl (rN (up ph np (h1))))), (b3, .inl (cI, 160, .inl (rN (up ps np (1))))), (b4, .inl (cI, 160, .inl (rN (up pf np (x1)))))] H := hP
      have hD : va_D A [(hq, .inr (3, [.ref b1, .ref b2, .ref b3, .ref b4, .int (iI ((np : Nat) : Int)), .ref b5, .int (iI ((sed : Nat) : Int)), .int (iI ((sac : Nat) : Int)), .int (iI ((kd : Nat) : Int)), .int (iI ((va : Nat) : Int)), .int (iI ((bs9 : Nat) : Int)), .int (iI ((bp9 : Nat) : Int))])), (b1, .inl (cI, 160, .inl (rN (up po np (w1))))), (b2, .inl (cI, 160, .inl (rN (up ph np (h1))))), (b3, .inl (cI, 160, .inl (rN (up ps np (1))))), (b4, .inl (cI, 160, .inl (rN (up pf np (x1)))))] := hD
      refine lv_aload_n hx hb dX3_addToPieces_99 rfl (lv_at hl 1 rfl) ?_
      refine lv_dup hx hb dX3_addToPieces_100 rfl ?_
      refine va_get (D := D) (ci := 3) (v := .int (iI ((np : Nat) : Int))) (C := RX3) (T := TX3) (N := 12) hx hb hts nX3_addToPieces_X3 hown hK hP 0 rfl rfl 4 (by decide) (hts _ kX3_addToPieces_52) (fun _ h9 => h9) rfl dX3_addToPieces_101 ?_
      refine r_iconst hx hb dX3_addToPieces_104 ?_
      refine r_iadd (v := ((np + 1 : Nat) : Int)) hx hb (rfl) dX3_addToPieces_105 ?_
      refine va_put (D := D) (ci := 3) (v := .int (iI ((np + 1 : Nat) : Int))) (ty := .int) (C := RX3) (T := TX3) (N := 12) hx hb hts nX3_addToPieces_X3 tyX3 tyX3_ok nmX3 hown hK hP hD hS 0 rfl rfl 4 (by decide) (hts _ kX3_addToPieces_52) (fun _ h9 => h9) rfl (by decide +kernel) rfl rfl (Nat.le_of_ble_eq_true rfl) dX3_addToPieces_106 (fun H locs hP hD hS => ?_)
      have hP : va_P D vwCl [(hq, .inr (3, [.ref b1, .ref b2, .ref b3, .ref b4, .int (iI ((np + 1 : Nat) : Int)), .ref b5, .int (iI ((sed : Nat) : Int)), .int (iI ((sac : Nat) : Int)), .int (iI ((kd : Nat) : Int)), .int (iI ((va : Nat) : Int)), .int (iI ((bs9 : Nat) : Int)), .int (iI ((bp9 : Nat) : Int))])), (b1, .inl (cI, 160, .inl (rN (up po np (w1))))), (b2, .inl (cI, 160, .inl (rN (up ph np (h1))))), (b3, .inl (cI, 160, .inl (rN (up ps np (1))))), (b4, .inl (cI, 160, .inl (rN (up pf np (x1)))))] H := hP
      have hD : va_D A [(hq, .inr (3, [.ref b1, .ref b2, .ref b3, .ref b4, .int (iI ((np + 1 : Nat) : Int)), .ref b5, .int (iI ((sed : Nat) : Int)), .int (iI ((sac : Nat) : Int)), .int (iI ((kd : Nat) : Int)), .int (iI ((va : Nat) : Int)), .int (iI ((bs9 : Nat) : Int)), .int (iI ((bp9 : Nat) : Int))])), (b1, .inl (cI, 160, .inl (rN (up po np (w1))))), (b2, .inl (cI, 160, .inl (rN (up ph np (h1))))), (b3, .inl (cI, 160, .inl (rN (up ps np (1))))), (b4, .inl (cI, 160, .inl (rN (up pf np (x1)))))] := hD
      exact r_vretX hx hb hr hlocks hP hD hS (up po np (w1), up ph np (h1), up ps np (1), up pf np (x1), np + 1) rfl (by first | exact Or.inl ⟨⟨by omega, by omega, by omega⟩, rfl, rfl, rfl, rfl, rfl⟩ | exact Or.inr ⟨fun q => by have q1 := q.1; have q2 := q.2.1; have q3 := q.2.2; omega, rfl, rfl, rfl, rfl, rfl⟩ | (exfalso; omega)) (by first | with_reducible rfl | simp) dX3_addToPieces_109
  · skip
    have hl : lv_has ls 5 [(4, .int (iI ((np - 1 : Nat) : Int))), (0, .ref hq), (1, .int (iI ((w1 : Nat) : Int))), (2, .int (iI ((h1 : Nat) : Int))), (3, .int (iI ((x1 : Nat) : Int)))] := lv_chg hl 0 4 rfl (show ((((np : Nat) : Int) - 1) : Int) = ((np - 1 : Nat) : Int) from by omega) rfl
    refine lv_aload_n hx hb dX3_addToPieces_13 rfl (lv_at hl 1 rfl) ?_
    refine va_get (D := D) (ci := 3) (v := .ref b1) (C := RX3) (T := TX3) (N := 12) hx hb hts nX3_addToPieces_X3 hown hK hP 0 rfl rfl 0 (by decide) (hts _ kX3_addToPieces_9) (fun _ h9 => h9) rfl dX3_addToPieces_14 ?_
    refine lv_iload hx hb dX3_addToPieces_17 (lv_at hl 0 rfl) ?_
    refine r_ialdN hx hb hK hP 1 0 rfl rfl (np - 1) (rfl) (by omega) (by decide) dX3_addToPieces_19 ?_
    refine lv_iload_n hx hb dX3_addToPieces_20 rfl (lv_at hl 2 rfl) ?_
    refine r_icmp_ne (tgt := 49) hx hb (by omega) (by omega) dX3_addToPieces_21 (by decide) (fun c_3 => ?_) (fun c_3 => ?_)
    · skip
      refine lv_aload_n hx hb dX3_addToPieces_49 rfl (lv_at hl 1 rfl) ?_
      refine va_get (D := D) (ci := 3) (v := .int (iI ((np : Nat) : Int))) (C := RX3) (T := TX3) (N := 12) hx hb hts nX3_addToPieces_X3 hown hK hP 0 rfl rfl 4 (by decide) (hts _ kX3_addToPieces_52) (fun _ h9 => h9) rfl dX3_addToPieces_50 ?_
      refine r_sipush hx hb dX3_addToPieces_53 (by decide) ?_
      refine r_icmp_ge (tgt := 109) hx hb (by omega) (⟨by decide, by decide⟩) dX3_addToPieces_56 (by decide) (fun c_4 => ?_) (fun c_4 => ?_)
      · skip
        exact r_vretX hx hb hr hlocks hP hD hS (po, ph, ps, pf, np) rfl (by first | exact Or.inl ⟨⟨by omega, by omega, by omega⟩, rfl, rfl, rfl, rfl, rfl⟩ | exact Or.inr ⟨fun q => by have q1 := q.1; have q2 := q.2.1; have q3 := q.2.2; omega, rfl, rfl, rfl, rfl, rfl⟩ | (exfalso; omega)) rfl dX3_addToPieces_109
      · skip
        refine lv_aload_n hx hb dX3_addToPieces_59 rfl (lv_at hl 1 rfl) ?_
        refine va_get (D := D) (ci := 3) (v := .ref b1) (C := RX3) (T := TX3) (N := 12) hx hb hts nX3_addToPieces_X3 hown hK hP 0 rfl rfl 0 (by decide) (hts _ kX3_addToPieces_9) (fun _ h9 => h9) rfl dX3_addToPieces_60 ?_
        refine lv_aload_n hx hb dX3_addToPieces_63 rfl (lv_at hl 1 rfl) ?_
        refine va_get (D := D) (ci := 3) (v := .int (iI ((np : Nat) : Int))) (C := RX3) (T := TX3) (N := 12) hx hb hts nX3_addToPieces_X3 hown hK hP 0 rfl rfl 4 (by decide) (hts _ kX3_addToPieces_52) (fun _ h9 => h9) rfl dX3_addToPieces_64 ?_
        refine lv_iload_n hx hb dX3_addToPieces_67 rfl (lv_at hl 2 rfl) ?_
        refine r_iastN (v := (w1)) hx hb hK hP hD hS 1 0 rfl rfl (np) (rfl) (by omega) (by decide) dX3_addToPieces_68 (fun H locs hP hD hS => ?_)
        have hP : va_P D vwCl [(hq, .inr (3, [.ref b1, .ref b2, .ref b3, .ref b4, .int (iI ((np : Nat) : Int)), .ref b5, .int (iI ((sed : Nat) : Int)), .int (iI ((sac : Nat) : Int)), .int (iI ((kd : Nat) : Int)), .int (iI ((va : Nat) : Int)), .int (iI ((bs9 : Nat) : Int)), .int (iI ((bp9 : Nat) : Int))])), (b1, .inl (cI, 160, .inl (rN (up po np (w1))))), (b2, .inl (cI, 160, .inl (rN (ph)))), (b3, .inl (cI, 160, .inl (rN (ps)))), (b4, .inl (cI, 160, .inl (rN (pf))))] H := hP
        have hD : va_D A [(hq, .inr (3, [.ref b1, .ref b2, .ref b3, .ref b4, .int (iI ((np : Nat) : Int)), .ref b5, .int (iI ((sed : Nat) : Int)), .int (iI ((sac : Nat) : Int)), .int (iI ((kd : Nat) : Int)), .int (iI ((va : Nat) : Int)), .int (iI ((bs9 : Nat) : Int)), .int (iI ((bp9 : Nat) : Int))])), (b1, .inl (cI, 160, .inl (rN (up po np (w1))))), (b2, .inl (cI, 160, .inl (rN (ph)))), (b3, .inl (cI, 160, .inl (rN (ps)))), (b4, .inl (cI, 160, .inl (rN (pf))))] := hD
        refine lv_aload_n hx hb dX3_addToPieces_69 rfl (lv_at hl 1 rfl) ?_
        refine va_get (D := D) (ci := 3) (v := .ref b2) (C := RX3) (T := TX3) (N := 12) hx hb hts nX3_addToPieces_X3 hown hK hP 0 rfl rfl 1 (by decide) (hts _ kX3_addToPieces_15) (fun _ h9 => h9) rfl dX3_addToPieces_70 ?_
        refine lv_aload_n hx hb dX3_addToPieces_73 rfl (lv_at hl 1 rfl) ?_
        refine va_get (D := D) (ci := 3) (v := .int (iI ((np : Nat) : Int))) (C := RX3) (T := TX3) (N := 12) hx hb hts nX3_addToPieces_X3 hown hK hP 0 rfl rfl 4 (by decide) (hts _ kX3_addToPieces_52) (fun _ h9 => h9) rfl dX3_addToPieces_74 ?_
        refine lv_iload_n hx hb dX3_addToPieces_77 rfl (lv_at hl 3 rfl) ?_
        refine r_iastN (v := (h1)) hx hb hK hP hD hS 2 0 rfl rfl (np) (rfl) (by omega) (by decide) dX3_addToPieces_78 (fun H locs hP hD hS => ?_)
        have hP : va_P D vwCl [(hq, .inr (3, [.ref b1, .ref b2, .ref b3, .ref b4, .int (iI ((np : Nat) : Int)), .ref b5, .int (iI ((sed : Nat) : Int)), .int (iI ((sac : Nat) : Int)), .int (iI ((kd : Nat) : Int)), .int (iI ((va : Nat) : Int)), .int (iI ((bs9 : Nat) : Int)), .int (iI ((bp9 : Nat) : Int))])), (b1, .inl (cI, 160, .inl (rN (up po np (w1))))), (b2, .inl (cI, 160, .inl (rN (up ph np (h1))))), (b3, .inl (cI, 160, .inl (rN (ps)))), (b4, .inl (cI, 160, .inl (rN (pf))))] H := hP
        have hD : va_D A [(hq, .inr (3, [.ref b1, .ref b2, .ref b3, .ref b4, .int (iI ((np : Nat) : Int)), .ref b5, .int (iI ((sed : Nat) : Int)), .int (iI ((sac : Nat) : Int)), .int (iI ((kd : Nat) : Int)), .int (iI ((va : Nat) : Int)), .int (iI ((bs9 : Nat) : Int)), .int (iI ((bp9 : Nat) : Int))])), (b1, .inl (cI, 160, .inl (rN (up po np (w1))))), (b2, .inl (cI, 160, .inl (rN (up ph np (h1))))), (b3, .inl (cI, 160, .inl (rN (ps)))), (b4, .inl (cI, 160, .inl (rN (pf))))] := hD
        refine lv_aload_n hx hb dX3_addToPieces_79 rfl (lv_at hl 1 rfl) ?_
        refine va_get (D := D) (ci := 3) (v := .ref b3) (C := RX3) (T := TX3) (N := 12) hx hb hts nX3_addToPieces_X3 hown hK hP 0 rfl rfl 2 (by decide) (hts _ kX3_addToPieces_18) (fun _ h9 => h9) rfl dX3_addToPieces_80 ?_
        refine lv_aload_n hx hb dX3_addToPieces_83 rfl (lv_at hl 1 rfl) ?_
        refine va_get (D := D) (ci := 3) (v := .int (iI ((np : Nat) : Int))) (C := RX3) (T := TX3) (N := 12) hx hb hts nX3_addToPieces_X3 hown hK hP 0 rfl rfl 4 (by decide) (hts _ kX3_addToPieces_52) (fun _ h9 => h9) rfl dX3_addToPieces_84 ?_
        refine r_iconst hx hb dX3_addToPieces_87 ?_
        refine r_iastN (v := (1)) hx hb hK hP hD hS 3 0 rfl rfl (np) (rfl) (by omega) (by decide) dX3_addToPieces_88 (fun H locs hP hD hS => ?_)
        have hP : va_P D vwCl [(hq, .inr (3, [.ref b1, .ref b2, .ref b3, .ref b4, .int (iI ((np : Nat) : Int)), .ref b5, .int (iI ((sed : Nat) : Int)), .int (iI ((sac : Nat) : Int)), .int (iI ((kd : Nat) : Int)), .int (iI ((va : Nat) : Int)), .int (iI ((bs9 : Nat) : Int)), .int (iI ((bp9 : Nat) : Int))])), (b1, .inl (cI, 160, .inl (rN (up po np (w1))))), (b2, .inl (cI, 160, .inl (rN (up ph np (h1))))), (b3, .inl (cI, 160, .inl (rN (up ps np (1))))), (b4, .inl (cI, 160, .inl (rN (pf))))] H := hP
        have hD : va_D A [(hq, .inr (3, [.ref b1, .ref b2, .ref b3, .ref b4, .int (iI ((np : Nat) : Int)), .ref b5, .int (iI ((sed : Nat) : Int)), .int (iI ((sac : Nat) : Int)), .int (iI ((kd : Nat) : Int)), .int (iI ((va : Nat) : Int)), .int (iI ((bs9 : Nat) : Int)), .int (iI ((bp9 : Nat) : Int))])), (b1, .inl (cI, 160, .inl (rN (up po np (w1))))), (b2, .inl (cI, 160, .inl (rN (up ph np (h1))))), (b3, .inl (cI, 160, .inl (rN (up ps np (1))))), (b4, .inl (cI, 160, .inl (rN (pf))))] := hD
        refine lv_aload_n hx hb dX3_addToPieces_89 rfl (lv_at hl 1 rfl) ?_
        refine va_get (D := D) (ci := 3) (v := .ref b4) (C := RX3) (T := TX3) (N := 12) hx hb hts nX3_addToPieces_X3 hown hK hP 0 rfl rfl 3 (by decide) (hts _ kX3_addToPieces_21) (fun _ h9 => h9) rfl dX3_addToPieces_90 ?_
        refine lv_aload_n hx hb dX3_addToPieces_93 rfl (lv_at hl 1 rfl) ?_
        refine va_get (D := D) (ci := 3) (v := .int (iI ((np : Nat) : Int))) (C := RX3) (T := TX3) (N := 12) hx hb hts nX3_addToPieces_X3 hown hK hP 0 rfl rfl 4 (by decide) (hts _ kX3_addToPieces_52) (fun _ h9 => h9) rfl dX3_addToPieces_94 ?_
        refine lv_iload_n hx hb dX3_addToPieces_97 rfl (lv_at hl 4 rfl) ?_
        refine r_iastN (v := (x1)) hx hb hK hP hD hS 4 0 rfl rfl (np) (rfl) (by omega) (by decide) dX3_addToPieces_98 (fun H locs hP hD hS => ?_)
        have hP : va_P D vwCl [(hq, .inr (3, [.ref b1, .ref b2, .ref b3, .ref b4, .int (iI ((np : Nat) : Int)), .ref b5, .int (iI ((sed : Nat) : Int)), .int (iI ((sac : Nat) : Int)), .int (iI ((kd : Nat) : Int)), .int (iI ((va : Nat) : Int)), .int (iI ((bs9 : Nat) : Int)), .int (iI ((bp9 : Nat) : Int))])), (b1, .inl (cI, 160, .inl (rN (up po np (w1))))), (b2, .inl (cI, 160, .inl (rN (up ph np (h1))))), (b3, .inl (cI, 160, .inl (rN (up ps np (1))))), (b4, .inl (cI, 160, .inl (rN (up pf np (x1)))))] H := hP
        have hD : va_D A [(hq, .inr (3, [.ref b1, .ref b2, .ref b3, .ref b4, .int (iI ((np : Nat) : Int)), .ref b5, .int (iI ((sed : Nat) : Int)), .int (iI ((sac : Nat) : Int)), .int (iI ((kd : Nat) : Int)), .int (iI ((va : Nat) : Int)), .int (iI ((bs9 : Nat) : Int)), .int (iI ((bp9 : Nat) : Int))])), (b1, .inl (cI, 160, .inl (rN (up po np (w1))))), (b2, .inl (cI, 160, .inl (rN (up ph np (h1))))), (b3, .inl (cI, 160, .inl (rN (up ps np (1))))), (b4, .inl (cI, 160, .inl (rN (up pf np (x1)))))] := hD
        refine lv_aload_n hx hb dX3_addToPieces_99 rfl (lv_at hl 1 rfl) ?_
        refine lv_dup hx hb dX3_addToPieces_100 rfl ?_
        refine va_get (D := D) (ci := 3) (v := .int (iI ((np : Nat) : Int))) (C := RX3) (T := TX3) (N := 12) hx hb hts nX3_addToPieces_X3 hown hK hP 0 rfl rfl 4 (by decide) (hts _ kX3_addToPieces_52) (fun _ h9 => h9) rfl dX3_addToPieces_101 ?_
        refine r_iconst hx hb dX3_addToPieces_104 ?_
        refine r_iadd (v := ((np + 1 : Nat) : Int)) hx hb (rfl) dX3_addToPieces_105 ?_
        refine va_put (D := D) (ci := 3) (v := .int (iI ((np + 1 : Nat) : Int))) (ty := .int) (C := RX3) (T := TX3) (N := 12) hx hb hts nX3_addToPieces_X3 tyX3 tyX3_ok nmX3 hown hK hP hD hS 0 rfl rfl 4 (by decide) (hts _ kX3_addToPieces_52) (fun _ h9 => h9) rfl (by decide +kernel) rfl rfl (Nat.le_of_ble_eq_true rfl) dX3_addToPieces_106 (fun H locs hP hD hS => ?_)
        have hP : va_P D vwCl [(hq, .inr (3, [.ref b1, .ref b2, .ref b3, .ref b4, .int (iI ((np + 1 : Nat) : Int)), .ref b5, .int (iI ((sed : Nat) : Int)), .int (iI ((sac : Nat) : Int)), .int (iI ((kd : Nat) : Int)), .int (iI ((va : Nat) : Int)), .int (iI ((bs9 : Nat) : Int)), .int (iI ((bp9 : Nat) : Int))])), (b1, .inl (cI, 160, .inl (rN (up po np (w1))))), (b2, .inl (cI, 160, .inl (rN (up ph np (h1))))), (b3, .inl (cI, 160, .inl (rN (up ps np (1))))), (b4, .inl (cI, 160, .inl (rN (up pf np (x1)))))] H := hP
        have hD : va_D A [(hq, .inr (3, [.ref b1, .ref b2, .ref b3, .ref b4, .int (iI ((np + 1 : Nat) : Int)), .ref b5, .int (iI ((sed : Nat) : Int)), .int (iI ((sac : Nat) : Int)), .int (iI ((kd : Nat) : Int)), .int (iI ((va : Nat) : Int)), .int (iI ((bs9 : Nat) : Int)), .int (iI ((bp9 : Nat) : Int))])), (b1, .inl (cI, 160, .inl (rN (up po np (w1))))), (b2, .inl (cI, 160, .inl (rN (up ph np (h1))))), (b3, .inl (cI, 160, .inl (rN (up ps np (1))))), (b4, .inl (cI, 160, .inl (rN (up pf np (x1)))))] := hD
        exact r_vretX hx hb hr hlocks hP hD hS (up po np (w1), up ph np (h1), up ps np (1), up pf np (x1), np + 1) rfl (by first | exact Or.inl ⟨⟨by omega, by omega, by omega⟩, rfl, rfl, rfl, rfl, rfl⟩ | exact Or.inr ⟨fun q => by have q1 := q.1; have q2 := q.2.1; have q3 := q.2.2; omega, rfl, rfl, rfl, rfl, rfl⟩ | (exfalso; omega)) (by first | with_reducible rfl | simp) dX3_addToPieces_109
    · skip
      refine lv_aload_n hx hb dX3_addToPieces_24 rfl (lv_at hl 1 rfl) ?_
      refine va_get (D := D) (ci := 3) (v := .ref b2) (C := RX3) (T := TX3) (N := 12) hx hb hts nX3_addToPieces_X3 hown hK hP 0 rfl rfl 1 (by decide) (hts _ kX3_addToPieces_15) (fun _ h9 => h9) rfl dX3_addToPieces_25 ?_
      refine lv_iload hx hb dX3_addToPieces_28 (lv_at hl 0 rfl) ?_
      refine r_ialdN hx hb hK hP 2 0 rfl rfl (np - 1) (rfl) (by omega) (by decide) dX3_addToPieces_30 ?_
      refine lv_iload_n hx hb dX3_addToPieces_31 rfl (lv_at hl 3 rfl) ?_
      refine r_icmp_ne (tgt := 49) hx hb (by omega) (by omega) dX3_addToPieces_32 (by decide) (fun c_5 => ?_) (fun c_5 => ?_)
      · skip
        refine lv_aload_n hx hb dX3_addToPieces_49 rfl (lv_at hl 1 rfl) ?_
        refine va_get (D := D) (ci := 3) (v := .int (iI ((np : Nat) : Int))) (C := RX3) (T := TX3) (N := 12) hx hb hts nX3_addToPieces_X3 hown hK hP 0 rfl rfl 4 (by decide) (hts _ kX3_addToPieces_52) (fun _ h9 => h9) rfl dX3_addToPieces_50 ?_
        refine r_sipush hx hb dX3_addToPieces_53 (by decide) ?_
        refine r_icmp_ge (tgt := 109) hx hb (by omega) (⟨by decide, by decide⟩) dX3_addToPieces_56 (by decide) (fun c_6 => ?_) (fun c_6 => ?_)
        · skip
          exact r_vretX hx hb hr hlocks hP hD hS (po, ph, ps, pf, np) rfl (by first | exact Or.inl ⟨⟨by omega, by omega, by omega⟩, rfl, rfl, rfl, rfl, rfl⟩ | exact Or.inr ⟨fun q => by have q1 := q.1; have q2 := q.2.1; have q3 := q.2.2; omega, rfl, rfl, rfl, rfl, rfl⟩ | (exfalso; omega)) rfl dX3_addToPieces_109
        · skip
          refine lv_aload_n hx hb dX3_addToPieces_59 rfl (lv_at hl 1 rfl) ?_
          refine va_get (D := D) (ci := 3) (v := .ref b1) (C := RX3) (T := TX3) (N := 12) hx hb hts nX3_addToPieces_X3 hown hK hP 0 rfl rfl 0 (by decide) (hts _ kX3_addToPieces_9) (fun _ h9 => h9) rfl dX3_addToPieces_60 ?_
          refine lv_aload_n hx hb dX3_addToPieces_63 rfl (lv_at hl 1 rfl) ?_
          refine va_get (D := D) (ci := 3) (v := .int (iI ((np : Nat) : Int))) (C := RX3) (T := TX3) (N := 12) hx hb hts nX3_addToPieces_X3 hown hK hP 0 rfl rfl 4 (by decide) (hts _ kX3_addToPieces_52) (fun _ h9 => h9) rfl dX3_addToPieces_64 ?_
          refine lv_iload_n hx hb dX3_addToPieces_67 rfl (lv_at hl 2 rfl) ?_
          refine r_iastN (v := (w1)) hx hb hK hP hD hS 1 0 rfl rfl (np) (rfl) (by omega) (by decide) dX3_addToPieces_68 (fun H locs hP hD hS => ?_)
          have hP : va_P D vwCl [(hq, .inr (3, [.ref b1, .ref b2, .ref b3, .ref b4, .int (iI ((np : Nat) : Int)), .ref b5, .int (iI ((sed : Nat) : Int)), .int (iI ((sac : Nat) : Int)), .int (iI ((kd : Nat) : Int)), .int (iI ((va : Nat) : Int)), .int (iI ((bs9 : Nat) : Int)), .int (iI ((bp9 : Nat) : Int))])), (b1, .inl (cI, 160, .inl (rN (up po np (w1))))), (b2, .inl (cI, 160, .inl (rN (ph)))), (b3, .inl (cI, 160, .inl (rN (ps)))), (b4, .inl (cI, 160, .inl (rN (pf))))] H := hP
          have hD : va_D A [(hq, .inr (3, [.ref b1, .ref b2, .ref b3, .ref b4, .int (iI ((np : Nat) : Int)), .ref b5, .int (iI ((sed : Nat) : Int)), .int (iI ((sac : Nat) : Int)), .int (iI ((kd : Nat) : Int)), .int (iI ((va : Nat) : Int)), .int (iI ((bs9 : Nat) : Int)), .int (iI ((bp9 : Nat) : Int))])), (b1, .inl (cI, 160, .inl (rN (up po np (w1))))), (b2, .inl (cI, 160, .inl (rN (ph)))), (b3, .inl (cI, 160, .inl (rN (ps)))), (b4, .inl (cI, 160, .inl (rN (pf))))] := hD
          refine lv_aload_n hx hb dX3_addToPieces_69 rfl (lv_at hl 1 rfl) ?_
          refine va_get (D := D) (ci := 3) (v := .ref b2) (C := RX3) (T := TX3) (N := 12) hx hb hts nX3_addToPieces_X3 hown hK hP 0 rfl rfl 1 (by decide) (hts _ kX3_addToPieces_15) (fun _ h9 => h9) rfl dX3_addToPieces_70 ?_
          refine lv_aload_n hx hb dX3_addToPieces_73 rfl (lv_at hl 1 rfl) ?_
          refine va_get (D := D) (ci := 3) (v := .int (iI ((np : Nat) : Int))) (C := RX3) (T := TX3) (N := 12) hx hb hts nX3_addToPieces_X3 hown hK hP 0 rfl rfl 4 (by decide) (hts _ kX3_addToPieces_52) (fun _ h9 => h9) rfl dX3_addToPieces_74 ?_
          refine lv_iload_n hx hb dX3_addToPieces_77 rfl (lv_at hl 3 rfl) ?_
          refine r_iastN (v := (h1)) hx hb hK hP hD hS 2 0 rfl rfl (np) (rfl) (by omega) (by decide) dX3_addToPieces_78 (fun H locs hP hD hS => ?_)
          have hP : va_P D vwCl [(hq, .inr (3, [.ref b1, .ref b2, .ref b3, .ref b4, .int (iI ((np : Nat) : Int)), .ref b5, .int (iI ((sed : Nat) : Int)), .int (iI ((sac : Nat) : Int)), .int (iI ((kd : Nat) : Int)), .int (iI ((va : Nat) : Int)), .int (iI ((bs9 : Nat) : Int)), .int (iI ((bp9 : Nat) : Int))])), (b1, .inl (cI, 160, .inl (rN (up po np (w1))))), (b2, .inl (cI, 160, .inl (rN (up ph np (h1))))), (b3, .inl (cI, 160, .inl (rN (ps)))), (b4, .inl (cI, 160, .inl (rN (pf))))] H := hP
          have hD : va_D A [(hq, .inr (3, [.ref b1, .ref b2, .ref b3, .ref b4, .int (iI ((np : Nat) : Int)), .ref b5, .int (iI ((sed : Nat) : Int)), .int (iI ((sac : Nat) : Int)), .int (iI ((kd : Nat) : Int)), .int (iI ((va : Nat) : Int)), .int (iI ((bs9 : Nat) : Int)), .int (iI ((bp9 : Nat) : Int))])), (b1, .inl (cI, 160, .inl (rN (up po np (w1))))), (b2, .inl (cI, 160, .inl (rN (up ph np (h1))))), (b3, .inl (cI, 160, .inl (rN (ps)))), (b4, .inl (cI, 160, .inl (rN (pf))))] := hD
          refine lv_aload_n hx hb dX3_addToPieces_79 rfl (lv_at hl 1 rfl) ?_
          refine va_get (D := D) (ci := 3) (v := .ref b3) (C := RX3) (T := TX3) (N := 12) hx hb hts nX3_addToPieces_X3 hown hK hP 0 rfl rfl 2 (by decide) (hts _ kX3_addToPieces_18) (fun _ h9 => h9) rfl dX3_addToPieces_80 ?_
          refine lv_aload_n hx hb dX3_addToPieces_83 rfl (lv_at hl 1 rfl) ?_
          refine va_get (D := D) (ci := 3) (v := .int (iI ((np : Nat) : Int))) (C := RX3) (T := TX3) (N := 12) hx hb hts nX3_addToPieces_X3 hown hK hP 0 rfl rfl 4 (by decide) (hts _ kX3_addToPieces_52) (fun _ h9 => h9) rfl dX3_addToPieces_84 ?_
          refine r_iconst hx hb dX3_addToPieces_87 ?_
          refine r_iastN (v := (1)) hx hb hK hP hD hS 3 0 rfl rfl (np) (rfl) (by omega) (by decide) dX3_addToPieces_88 (fun H locs hP hD hS => ?_)
          have hP : va_P D vwCl [(hq, .inr (3, [.ref b1, .ref b2, .ref b3, .ref b4, .int (iI ((np : Nat) : Int)), .ref b5, .int (iI ((sed : Nat) : Int)), .int (iI ((sac : Nat) : Int)), .int (iI ((kd : Nat) : Int)), .int (iI ((va : Nat) : Int)), .int (iI ((bs9 : Nat) : Int)), .int (iI ((bp9 : Nat) : Int))])), (b1, .inl (cI, 160, .inl (rN (up po np (w1))))), (b2, .inl (cI, 160, .inl (rN (up ph np (h1))))), (b3, .inl (cI, 160, .inl (rN (up ps np (1))))), (b4, .inl (cI, 160, .inl (rN (pf))))] H := hP
          have hD : va_D A [(hq, .inr (3, [.ref b1, .ref b2, .ref b3, .ref b4, .int (iI ((np : Nat) : Int)), .ref b5, .int (iI ((sed : Nat) : Int)), .int (iI ((sac : Nat) : Int)), .int (iI ((kd : Nat) : Int)), .int (iI ((va : Nat) : Int)), .int (iI ((bs9 : Nat) : Int)), .int (iI ((bp9 : Nat) : Int))])), (b1, .inl (cI, 160, .inl (rN (up po np (w1))))), (b2, .inl (cI, 160, .inl (rN (up ph np (h1))))), (b3, .inl (cI, 160, .inl (rN (up ps np (1))))), (b4, .inl (cI, 160, .inl (rN (pf))))] := hD
          refine lv_aload_n hx hb dX3_addToPieces_89 rfl (lv_at hl 1 rfl) ?_
          refine va_get (D := D) (ci := 3) (v := .ref b4) (C := RX3) (T := TX3) (N := 12) hx hb hts nX3_addToPieces_X3 hown hK hP 0 rfl rfl 3 (by decide) (hts _ kX3_addToPieces_21) (fun _ h9 => h9) rfl dX3_addToPieces_90 ?_
          refine lv_aload_n hx hb dX3_addToPieces_93 rfl (lv_at hl 1 rfl) ?_
          refine va_get (D := D) (ci := 3) (v := .int (iI ((np : Nat) : Int))) (C := RX3) (T := TX3) (N := 12) hx hb hts nX3_addToPieces_X3 hown hK hP 0 rfl rfl 4 (by decide) (hts _ kX3_addToPieces_52) (fun _ h9 => h9) rfl dX3_addToPieces_94 ?_
          refine lv_iload_n hx hb dX3_addToPieces_97 rfl (lv_at hl 4 rfl) ?_
          refine r_iastN (v := (x1)) hx hb hK hP hD hS 4 0 rfl rfl (np) (rfl) (by omega) (by decide) dX3_addToPieces_98 (fun H locs hP hD hS => ?_)
          have hP : va_P D vwCl [(hq, .inr (3, [.ref b1, .ref b2, .ref b3, .ref b4, .int (iI ((np : Nat) : Int)), .ref b5, .int (iI ((sed : Nat) : Int)), .int (iI ((sac : Nat) : Int)), .int (iI ((kd : Nat) : Int)), .int (iI ((va : Nat) : Int)), .int (iI ((bs9 : Nat) : Int)), .int (iI ((bp9 : Nat) : Int))])), (b1, .inl (cI, 160, .inl (rN (up po np (w1))))), (b2, .inl (cI, 160, .inl (rN (up ph np (h1))))), (b3, .inl (cI, 160, .inl (rN (up ps np (1))))), (b4, .inl (cI, 160, .inl (rN (up pf np (x1)))))] H := hP
          have hD : va_D A [(hq, .inr (3, [.ref b1, .ref b2, .ref b3, .ref b4, .int (iI ((np : Nat) : Int)), .ref b5, .int (iI ((sed : Nat) : Int)), .int (iI ((sac : Nat) : Int)), .int (iI ((kd : Nat) : Int)), .int (iI ((va : Nat) : Int)), .int (iI ((bs9 : Nat) : Int)), .int (iI ((bp9 : Nat) : Int))])), (b1, .inl (cI, 160, .inl (rN (up po np (w1))))), (b2, .inl (cI, 160, .inl (rN (up ph np (h1))))), (b3, .inl (cI, 160, .inl (rN (up ps np (1))))), (b4, .inl (cI, 160, .inl (rN (up pf np (x1)))))] := hD
          refine lv_aload_n hx hb dX3_addToPieces_99 rfl (lv_at hl 1 rfl) ?_
          refine lv_dup hx hb dX3_addToPieces_100 rfl ?_
          refine va_get (D := D) (ci := 3) (v := .int (iI ((np : Nat) : Int))) (C := RX3) (T := TX3) (N := 12) hx hb hts nX3_addToPieces_X3 hown hK hP 0 rfl rfl 4 (by decide) (hts _ kX3_addToPieces_52) (fun _ h9 => h9) rfl dX3_addToPieces_101 ?_
          refine r_iconst hx hb dX3_addToPieces_104 ?_
          refine r_iadd (v := ((np + 1 : Nat) : Int)) hx hb (rfl) dX3_addToPieces_105 ?_
          refine va_put (D := D) (ci := 3) (v := .int (iI ((np + 1 : Nat) : Int))) (ty := .int) (C := RX3) (T := TX3) (N := 12) hx hb hts nX3_addToPieces_X3 tyX3 tyX3_ok nmX3 hown hK hP hD hS 0 rfl rfl 4 (by decide) (hts _ kX3_addToPieces_52) (fun _ h9 => h9) rfl (by decide +kernel) rfl rfl (Nat.le_of_ble_eq_true rfl) dX3_addToPieces_106 (fun H locs hP hD hS => ?_)
          have hP : va_P D vwCl [(hq, .inr (3, [.ref b1, .ref b2, .ref b3, .ref b4, .int (iI ((np + 1 : Nat) : Int)), .ref b5, .int (iI ((sed : Nat) : Int)), .int (iI ((sac : Nat) : Int)), .int (iI ((kd : Nat) : Int)), .int (iI ((va : Nat) : Int)), .int (iI ((bs9 : Nat) : Int)), .int (iI ((bp9 : Nat) : Int))])), (b1, .inl (cI, 160, .inl (rN (up po np (w1))))), (b2, .inl (cI, 160, .inl (rN (up ph np (h1))))), (b3, .inl (cI, 160, .inl (rN (up ps np (1))))), (b4, .inl (cI, 160, .inl (rN (up pf np (x1)))))] H := hP
          have hD : va_D A [(hq, .inr (3, [.ref b1, .ref b2, .ref b3, .ref b4, .int (iI ((np + 1 : Nat) : Int)), .ref b5, .int (iI ((sed : Nat) : Int)), .int (iI ((sac : Nat) : Int)), .int (iI ((kd : Nat) : Int)), .int (iI ((va : Nat) : Int)), .int (iI ((bs9 : Nat) : Int)), .int (iI ((bp9 : Nat) : Int))])), (b1, .inl (cI, 160, .inl (rN (up po np (w1))))), (b2, .inl (cI, 160, .inl (rN (up ph np (h1))))), (b3, .inl (cI, 160, .inl (rN (up ps np (1))))), (b4, .inl (cI, 160, .inl (rN (up pf np (x1)))))] := hD
          exact r_vretX hx hb hr hlocks hP hD hS (up po np (w1), up ph np (h1), up ps np (1), up pf np (x1), np + 1) rfl (by first | exact Or.inl ⟨⟨by omega, by omega, by omega⟩, rfl, rfl, rfl, rfl, rfl⟩ | exact Or.inr ⟨fun q => by have q1 := q.1; have q2 := q.2.1; have q3 := q.2.2; omega, rfl, rfl, rfl, rfl, rfl⟩ | (exfalso; omega)) (by first | with_reducible rfl | simp) dX3_addToPieces_109
      · skip
        refine lv_aload_n hx hb dX3_addToPieces_35 rfl (lv_at hl 1 rfl) ?_
        refine va_get (D := D) (ci := 3) (v := .ref b3) (C := RX3) (T := TX3) (N := 12) hx hb hts nX3_addToPieces_X3 hown hK hP 0 rfl rfl 2 (by decide) (hts _ kX3_addToPieces_18) (fun _ h9 => h9) rfl dX3_addToPieces_36 ?_
        refine lv_iload hx hb dX3_addToPieces_39 (lv_at hl 0 rfl) ?_
        refine lv_dup2_11 hx hb dX3_addToPieces_41 rfl rfl ?_
        refine r_ialdN hx hb hK hP 3 0 rfl rfl (np - 1) (rfl) (by omega) (by decide) dX3_addToPieces_42 ?_
        refine r_iconst hx hb dX3_addToPieces_43 ?_
        refine r_iadd (v := (((ps (np - 1)) + 1 : Nat) : Int)) hx hb (rfl) dX3_addToPieces_44 ?_
        refine r_iastN (v := ((ps (np - 1)) + 1)) hx hb hK hP hD hS 3 0 rfl rfl (np - 1) (rfl) (by omega) (by decide) dX3_addToPieces_45 (fun H locs hP hD hS => ?_)
        have hP : va_P D vwCl [(hq, .inr (3, [.ref b1, .ref b2, .ref b3, .ref b4, .int (iI ((np : Nat) : Int)), .ref b5, .int (iI ((sed : Nat) : Int)), .int (iI ((sac : Nat) : Int)), .int (iI ((kd : Nat) : Int)), .int (iI ((va : Nat) : Int)), .int (iI ((bs9 : Nat) : Int)), .int (iI ((bp9 : Nat) : Int))])), (b1, .inl (cI, 160, .inl (rN (po)))), (b2, .inl (cI, 160, .inl (rN (ph)))), (b3, .inl (cI, 160, .inl (rN (up ps (np - 1) ((ps (np - 1)) + 1))))), (b4, .inl (cI, 160, .inl (rN (pf))))] H := hP
        have hD : va_D A [(hq, .inr (3, [.ref b1, .ref b2, .ref b3, .ref b4, .int (iI ((np : Nat) : Int)), .ref b5, .int (iI ((sed : Nat) : Int)), .int (iI ((sac : Nat) : Int)), .int (iI ((kd : Nat) : Int)), .int (iI ((va : Nat) : Int)), .int (iI ((bs9 : Nat) : Int)), .int (iI ((bp9 : Nat) : Int))])), (b1, .inl (cI, 160, .inl (rN (po)))), (b2, .inl (cI, 160, .inl (rN (ph)))), (b3, .inl (cI, 160, .inl (rN (up ps (np - 1) ((ps (np - 1)) + 1))))), (b4, .inl (cI, 160, .inl (rN (pf))))] := hD
        refine lv_goto (tgt := 109) hx hb dX3_addToPieces_46 (by decide) ?_
        exact r_vretX hx hb hr hlocks hP hD hS (po, ph, up ps (np - 1) ((ps (np - 1)) + 1), pf, np) rfl (by first | exact Or.inl ⟨⟨by omega, by omega, by omega⟩, rfl, rfl, rfl, rfl, rfl⟩ | exact Or.inr ⟨fun q => by have q1 := q.1; have q2 := q.2.1; have q3 := q.2.2; omega, rfl, rfl, rfl, rfl, rfl⟩ | (exfalso; omega)) (by first | with_reducible rfl | simp) dX3_addToPieces_109

theorem kX3_isPieceVisible_9 : Cond.fieldLink RX3 9 "PricedUndo$Search" "owners" "[I" ∈ wsX3_isPieceVisible := List.mem_of_getElem? (i := 1) (by decide +kernel)
theorem nX3_isPieceVisible_X3 : ∀ w ∈ u_ws RX3 TX3 12, w ∈ wsX3_isPieceVisible := in_lay 3 (by decide +kernel)
theorem kX3_isPieceVisible_15 : Cond.fieldLink RX3 15 "PricedUndo$Search" "hiders" "[I" ∈ wsX3_isPieceVisible := List.mem_of_getElem? (i := 2) (by decide +kernel)
set_option maxHeartbeats 4000000 in
set_option maxRecDepth 100000 in
theorem s_isPieceVisible (l : Launch) (D : va_G) (cI cB cZ cO : ClassId) (hq : Nat) (b1 : Nat) (b2 : Nat) (b3 : Nat) (b4 : Nat) (b5 : Nat) (np : Nat) (sed : Nat) (sac : Nat) (kd : Nat) (va : Nat) (bs9 : Nat) (bp9 : Nat) (po : Nat → Nat) (ph : Nat → Nat) (i1 : Nat) (st1 : Nat) (hi1 : i1 < 160) (hpo : ∀ k, po k < 65536) (hph : ∀ k, ph k < 65536) (hst : st1 < 65536) : Met l yX3_isPieceVisible wsX3_isPieceVisible ({ frames := 0, cells := 0, slots := 0, locals := 0 }) (va_Pc [.ref hq, .int (iI ((i1 : Nat) : Int)), .int (iI ((st1 : Nat) : Int))] (RO D cI cB cZ cO [(hq, .inr (3, [.ref b1, .ref b2, .ref b3, .ref b4, .int (iI ((np : Nat) : Int)), .ref b5, .int (iI ((sed : Nat) : Int)), .int (iI ((sac : Nat) : Int)), .int (iI ((kd : Nat) : Int)), .int (iI ((va : Nat) : Int)), .int (iI ((bs9 : Nat) : Int)), .int (iI ((bp9 : Nat) : Int))])), (b1, .inl (cI, 160, .inl (rN (po)))), (b2, .inl (cI, 160, .inl (rN (ph))))])) (QO (bI (pvb po ph st1 i1 = true))) 0 0 (fun _ => False) := by
  refine startO (cc := cX3_isPieceVisible) (maxL := 3) (ret := (some .boolean)) (by decide) rfl (Nat.le_of_ble_eq_true rfl) ?_
  intro p e s m below meth c S hr hlocks hE hP ls hl
  have hx := S.1
  have hb := S.2.1
  have hown := S.2.2.2.1
  have hts := S.2.2.2.2
  have hK := hE.1
  have hl : lv_has ls 3 [(0, .ref hq), (1, .int (iI ((i1 : Nat) : Int))), (2, .int (iI ((st1 : Nat) : Int)))] := hl
  have hpi := hpo i1
  have hhi := hph i1
  have hal := @Nat.and_le_left (po i1) st1
  have hnl := nd_le (ph i1) st1
  refine lv_aload_n hx hb dX3_isPieceVisible_0 rfl (lv_at hl 0 rfl) ?_
  refine va_get (D := D) (ci := 3) (v := .ref b1) (C := RX3) (T := TX3) (N := 12) hx hb hts nX3_isPieceVisible_X3 hown hK hP 0 rfl rfl 0 (by decide) (hts _ kX3_isPieceVisible_9) (fun _ h9 => h9) rfl dX3_isPieceVisible_1 ?_
  refine lv_iload_n hx hb dX3_isPieceVisible_4 rfl (lv_at hl 1 rfl) ?_
  refine r_ialdN hx hb hK hP 1 0 rfl rfl (i1) (rfl) (by first | omega | exact decide_eq_true ⟨by omega, by omega⟩ | (intro h9; have h8 := of_decide_eq_true h9; have h7 := h8.1; have h6 := h8.2; omega)) (by decide) dX3_isPieceVisible_5 ?_
  refine lv_iload_n hx hb dX3_isPieceVisible_6 rfl (lv_at hl 2 rfl) ?_
  refine r_iand hx hb (po i1) (st1) (rfl) (rfl) dX3_isPieceVisible_7 ?_
  refine r_if_ne (tgt := 28) hx hb (by first | omega | exact decide_eq_true ⟨by omega, by omega⟩ | (intro h9; have h8 := of_decide_eq_true h9; have h7 := h8.1; have h6 := h8.2; omega)) dX3_isPieceVisible_8 (by decide) (fun c_1 => ?_) (fun c_1 => ?_)
  · skip
    refine r_iconst hx hb dX3_isPieceVisible_28 ?_
    exact r_zretO hx hb hr hlocks ((bI_f (by first | omega | exact decide_eq_true ⟨by omega, by omega⟩ | (intro h9; have h8 := of_decide_eq_true h9; have h7 := h8.1; have h6 := h8.2; omega))).symm) (Or.inl rfl) dX3_isPieceVisible_29
  · skip
    refine lv_aload_n hx hb dX3_isPieceVisible_11 rfl (lv_at hl 0 rfl) ?_
    refine va_get (D := D) (ci := 3) (v := .ref b2) (C := RX3) (T := TX3) (N := 12) hx hb hts nX3_isPieceVisible_X3 hown hK hP 0 rfl rfl 1 (by decide) (hts _ kX3_isPieceVisible_15) (fun _ h9 => h9) rfl dX3_isPieceVisible_12 ?_
    refine lv_iload_n hx hb dX3_isPieceVisible_15 rfl (lv_at hl 1 rfl) ?_
    refine r_ialdN hx hb hK hP 2 0 rfl rfl (i1) (rfl) (by first | omega | exact decide_eq_true ⟨by omega, by omega⟩ | (intro h9; have h8 := of_decide_eq_true h9; have h7 := h8.1; have h6 := h8.2; omega)) (by decide) dX3_isPieceVisible_16 ?_
    refine lv_iload_n hx hb dX3_isPieceVisible_17 rfl (lv_at hl 2 rfl) ?_
    refine r_iconst hx hb dX3_isPieceVisible_18 ?_
    refine r_inot (v := (-1 - ((st1 : Nat) : Int))) hx hb (rfl) dX3_isPieceVisible_19 ?_
    refine r_iandnot hx hb (ph i1) (st1) (rfl) rfl dX3_isPieceVisible_20 ?_
    refine r_if_ne (tgt := 28) hx hb (by first | omega | exact decide_eq_true ⟨by omega, by omega⟩ | (intro h9; have h8 := of_decide_eq_true h9; have h7 := h8.1; have h6 := h8.2; omega)) dX3_isPieceVisible_21 (by decide) (fun c_2 => ?_) (fun c_2 => ?_)
    · skip
      refine r_iconst hx hb dX3_isPieceVisible_28 ?_
      exact r_zretO hx hb hr hlocks ((bI_f (by first | omega | exact decide_eq_true ⟨by omega, by omega⟩ | (intro h9; have h8 := of_decide_eq_true h9; have h7 := h8.1; have h6 := h8.2; omega))).symm) (Or.inl rfl) dX3_isPieceVisible_29
    · skip
      refine r_iconst hx hb dX3_isPieceVisible_24 ?_
      refine lv_goto (tgt := 29) hx hb dX3_isPieceVisible_25 (by decide) ?_
      exact r_zretO hx hb hr hlocks ((bI_t (by first | omega | exact decide_eq_true ⟨by omega, by omega⟩ | (intro h9; have h8 := of_decide_eq_true h9; have h7 := h8.1; have h6 := h8.2; omega))).symm) (Or.inr rfl) dX3_isPieceVisible_29

theorem kX3_visibleWithout_52 : Cond.fieldLink RX3 52 "PricedUndo$Search" "pieces" "I" ∈ wsX3_visibleWithout := List.mem_of_getElem? (i := 1) (by decide +kernel)
theorem nX3_visibleWithout_X3 : ∀ w ∈ u_ws RX3 TX3 12, w ∈ wsX3_visibleWithout := in_lay 10 (by decide +kernel)
theorem kX3_visibleWithout_18 : Cond.fieldLink RX3 18 "PricedUndo$Search" "sizes" "[I" ∈ wsX3_visibleWithout := List.mem_of_getElem? (i := 2) (by decide +kernel)
set_option maxHeartbeats 4000000 in
set_option maxRecDepth 100000 in
theorem s_visibleWithout (l : Launch) (D : va_G) (cI cB cZ cO : ClassId) (hq : Nat) (b1 : Nat) (b2 : Nat) (b3 : Nat) (b4 : Nat) (b5 : Nat) (np : Nat) (sed : Nat) (sac : Nat) (kd : Nat) (va : Nat) (bs9 : Nat) (bp9 : Nat) (po : Nat → Nat) (ph : Nat → Nat) (ps : Nat → Nat) (st1 : Nat) (hnp : np ≤ 160) (hpo : ∀ k, po k < 65536) (hph : ∀ k, ph k < 65536) (hst : st1 < 65536) : Met l yX3_visibleWithout wsX3_visibleWithout ({ frames := 1, cells := 0, slots := 0, locals := 22 }) (va_Pc [.ref hq, .int (iI ((st1 : Nat) : Int))] (RO D cI cB cZ cO [(hq, .inr (3, [.ref b1, .ref b2, .ref b3, .ref b4, .int (iI ((np : Nat) : Int)), .ref b5, .int (iI ((sed : Nat) : Int)), .int (iI ((sac : Nat) : Int)), .int (iI ((kd : Nat) : Int)), .int (iI ((va : Nat) : Int)), .int (iI ((bs9 : Nat) : Int)), .int (iI ((bp9 : Nat) : Int))])), (b1, .inl (cI, 160, .inl (rN (po)))), (b2, .inl (cI, 160, .inl (rN (ph)))), (b3, .inl (cI, 160, .inl (rN (ps))))])) (QO ((sumV (pvb po ph st1) ps np : Nat) : Int)) 0 0 (fun _ => False) := by
  refine startO (cc := cX3_visibleWithout) (maxL := 4) (ret := (some .int)) (by decide) rfl (Nat.le_of_ble_eq_true rfl) ?_
  intro p e s m below meth c S hr hlocks hE hP ls hl
  have hx := S.1
  have hb := S.2.1
  have hown := S.2.2.2.1
  have hts := S.2.2.2.2
  have hK := hE.1
  have hl : lv_has ls 4 [(0, .ref hq), (1, .int (iI ((st1 : Nat) : Int)))] := hl
  refine r_iconst hx hb dX3_visibleWithout_0 ?_
  refine lv_istore_n (lv' := [(2, .int (iI 0)), (0, .ref hq), (1, .int (iI ((st1 : Nat) : Int)))]) hx hb dX3_visibleWithout_1 rfl hl (by decide) rfl (fun ls hl => ?_)
  refine r_iconst hx hb dX3_visibleWithout_2 ?_
  refine lv_istore_n (lv' := [(3, .int (iI 0)), (2, .int (iI 0)), (0, .ref hq), (1, .int (iI ((st1 : Nat) : Int)))]) hx hb dX3_visibleWithout_3 rfl hl (by decide) rfl (fun ls hl => ?_)
  have loop_4 : ∀ (n_4 : Nat) (k : Nat), (np - k) < n_4 → (k ≤ np) → ∀ (ls : Array Slot), lv_has ls 4 [(0, .ref hq), (1, .int (iI ((st1 : Nat) : Int))), (2, .int (iI ((sumV (pvb po ph st1) ps k : Nat) : Int))), (3, .int (iI ((k : Nat) : Int)))] → W p l e ({ frames := 1, cells := 0, slots := 0, locals := 22 }) s m ([.ref hq, .int (iI ((st1 : Nat) : Int))] : List Value).toArray below meth c s.heap [] 0 0 (MQ below (QO ((sumV (pvb po ph st1) ps np : Nat) : Int)) ([.ref hq, .int (iI ((st1 : Nat) : Int))] : List Value).toArray s 0 0 (fun _ => False)) (F0 m 4 ls []) := by
    intro n_4
    induction n_4 with
    | zero => intro k h_meas; exact absurd h_meas (Nat.not_lt_zero _)
    | succ n_4 ih_4 =>
      intro k h_m4 ik ls hl
      refine lv_iload_n hx hb dX3_visibleWithout_4 rfl (lv_at hl 3 rfl) ?_
      refine lv_aload_n hx hb dX3_visibleWithout_5 rfl (lv_at hl 0 rfl) ?_
      refine va_get (D := D) (ci := 3) (v := .int (iI ((np : Nat) : Int))) (C := RX3) (T := TX3) (N := 12) hx hb hts nX3_visibleWithout_X3 hown hK hP 0 rfl rfl 4 (by decide) (hts _ kX3_visibleWithout_52) (fun _ h9 => h9) rfl dX3_visibleWithout_6 ?_
      refine r_icmp_ge (tgt := 36) hx hb (by first | omega | (rw [show k = np by omega])) (by first | omega | (rw [show k = np by omega])) dX3_visibleWithout_9 (by decide) (fun c_1 => ?_) (fun c_1 => ?_)
      · skip
        refine lv_iload_n hx hb dX3_visibleWithout_36 rfl (lv_at hl 2 rfl) ?_
        exact r_iretO hx hb hr hlocks (by first | omega | (rw [show k = np by omega])) dX3_visibleWithout_37
      · skip
        refine lv_aload_n hx hb dX3_visibleWithout_12 rfl (lv_at hl 0 rfl) ?_
        refine lv_iload_n hx hb dX3_visibleWithout_13 rfl (lv_at hl 3 rfl) ?_
        refine lv_iload_n hx hb dX3_visibleWithout_14 rfl (lv_at hl 1 rfl) ?_
        refine callVO (n := 2) (As := [.int (iI ((k : Nat) : Int)), .int (iI ((st1 : Nat) : Int))]) (rest := []) (wc := [(hq, .inr (3, [.ref b1, .ref b2, .ref b3, .ref b4, .int (iI ((np : Nat) : Int)), .ref b5, .int (iI ((sed : Nat) : Int)), .int (iI ((sac : Nat) : Int)), .int (iI ((kd : Nat) : Int)), .int (iI ((va : Nat) : Int)), .int (iI ((bs9 : Nat) : Int)), .int (iI ((bp9 : Nat) : Int))])), (b1, .inl (cI, 160, .inl (rN (po)))), (b2, .inl (cI, 160, .inl (rN (ph))))]) S (s_isPieceVisible l D cI cB cZ cO hq b1 b2 b3 b4 b5 np sed sac kd va bs9 bp9 po ph k st1 (by first | assumption | (first | omega | (rw [show k = np by omega]))) (by first | assumption | (first | omega | (rw [show k = np by omega]))) (by first | assumption | (first | omega | (rw [show k = np by omega]))) (by first | assumption | (first | omega | (rw [show k = np by omega])))) gX3_visibleWithout_X3_isPieceVisible rfl ⟨rfl, rfl⟩ (by decide +kernel) ⟨Nat.le_of_ble_eq_true rfl, Nat.le_of_ble_eq_true rfl⟩ hE hP [0, 1, 2] rfl 3 0 rfl rfl rfl hl.1 rfl (Nat.le_of_ble_eq_true rfl) dX3_visibleWithout_15 ⟨Nat.le_of_ble_eq_true rfl, Nat.le_of_ble_eq_true rfl⟩ ?_
        refine r_ifb_eq (tgt := 30) hx hb dX3_visibleWithout_18 (by decide) (fun c_2 => ?_) (fun c_2 => ?_)
        · skip
          refine lv_iinc (v := iI ((k + 1 : Nat) : Int)) (lv' := [(3, .int (iI ((k + 1 : Nat) : Int))), (0, .ref hq), (1, .int (iI ((st1 : Nat) : Int))), (2, .int (iI ((sumV (pvb po ph st1) ps k : Nat) : Int)))]) hx hb dX3_visibleWithout_30 hl (k := 3) rfl ((iI_add _ _).trans (ii (rfl))) (by decide) rfl (fun ls hl => ?_)
          refine lv_goto (tgt := 4) hx hb dX3_visibleWithout_33 (by decide) ?_
          have hl : lv_has ls 4 [(3, .int (iI ((k + 1 : Nat) : Int))), (0, .ref hq), (1, .int (iI ((st1 : Nat) : Int))), (2, .int (iI ((sumV (pvb po ph st1) ps (k + 1) : Nat) : Int)))] := lv_chg hl 3 2 rfl (show (((sumV (pvb po ph st1) ps k : Nat) : Int) : Int) = ((sumV (pvb po ph st1) ps (k + 1) : Nat) : Int) from by first | (rw [sumV_t (by assumption)]) | (rw [sumV_f (by assumption)])) rfl
          exact ih_4 (k + 1) (by first | omega | (rw [show k = np by omega])) (by first | assumption | (first | omega | (rw [show k = np by omega]))) ls (lv_sub hl [1, 2, 3, 0] rfl)
        · skip
          refine lv_iload_n hx hb dX3_visibleWithout_21 rfl (lv_at hl 2 rfl) ?_
          refine lv_aload_n hx hb dX3_visibleWithout_22 rfl (lv_at hl 0 rfl) ?_
          refine va_get (D := D) (ci := 3) (v := .ref b3) (C := RX3) (T := TX3) (N := 12) hx hb hts nX3_visibleWithout_X3 hown hK hP 0 rfl rfl 2 (by decide) (hts _ kX3_visibleWithout_18) (fun _ h9 => h9) rfl dX3_visibleWithout_23 ?_
          refine lv_iload_n hx hb dX3_visibleWithout_26 rfl (lv_at hl 3 rfl) ?_
          refine r_ialdN hx hb hK hP 3 0 rfl rfl (k) (rfl) (by first | omega | (rw [show k = np by omega])) (by decide) dX3_visibleWithout_27 ?_
          refine r_iadd (v := (((sumV (pvb po ph st1) ps k) + (ps k) : Nat) : Int)) hx hb (rfl) dX3_visibleWithout_28 ?_
          refine lv_istore_n (lv' := [(2, .int (iI (((sumV (pvb po ph st1) ps k) + (ps k) : Nat) : Int))), (0, .ref hq), (1, .int (iI ((st1 : Nat) : Int))), (3, .int (iI ((k : Nat) : Int)))]) hx hb dX3_visibleWithout_29 rfl hl (by decide) rfl (fun ls hl => ?_)
          refine lv_iinc (v := iI ((k + 1 : Nat) : Int)) (lv' := [(3, .int (iI ((k + 1 : Nat) : Int))), (2, .int (iI (((sumV (pvb po ph st1) ps k) + (ps k) : Nat) : Int))), (0, .ref hq), (1, .int (iI ((st1 : Nat) : Int)))]) hx hb dX3_visibleWithout_30 hl (k := 3) rfl ((iI_add _ _).trans (ii (rfl))) (by decide) rfl (fun ls hl => ?_)
          refine lv_goto (tgt := 4) hx hb dX3_visibleWithout_33 (by decide) ?_
          have hl : lv_has ls 4 [(3, .int (iI ((k + 1 : Nat) : Int))), (2, .int (iI ((sumV (pvb po ph st1) ps (k + 1) : Nat) : Int))), (0, .ref hq), (1, .int (iI ((st1 : Nat) : Int)))] := lv_chg hl 1 2 rfl (show ((((sumV (pvb po ph st1) ps k) + (ps k) : Nat) : Int) : Int) = ((sumV (pvb po ph st1) ps (k + 1) : Nat) : Int) from by first | (rw [sumV_t (by assumption)]) | (rw [sumV_f (by assumption)])) rfl
          exact ih_4 (k + 1) (by first | omega | (rw [show k = np by omega])) (by first | assumption | (first | omega | (rw [show k = np by omega]))) ls (lv_sub hl [2, 3, 1, 0] rfl)
  have hl : lv_has ls 4 [(3, .int (iI 0)), (2, .int (iI ((sumV (pvb po ph st1) ps 0 : Nat) : Int))), (0, .ref hq), (1, .int (iI ((st1 : Nat) : Int)))] := lv_chg hl 1 2 rfl (show (0 : Int) = ((sumV (pvb po ph st1) ps 0 : Nat) : Int) from by rfl) rfl
  exact loop_4 ((np - 0) + 1) 0 (by first | omega | (rw [show k = np by omega])) (by first | assumption | (first | omega | (rw [show k = np by omega]))) ls (lv_sub hl [2, 3, 1, 0] rfl)

theorem kX3_firstCodeWithout_52 : Cond.fieldLink RX3 52 "PricedUndo$Search" "pieces" "I" ∈ wsX3_firstCodeWithout := List.mem_of_getElem? (i := 1) (by decide +kernel)
theorem nX3_firstCodeWithout_X3 : ∀ w ∈ u_ws RX3 TX3 12, w ∈ wsX3_firstCodeWithout := in_lay 10 (by decide +kernel)
theorem kX3_firstCodeWithout_21 : Cond.fieldLink RX3 21 "PricedUndo$Search" "firstCodes" "[I" ∈ wsX3_firstCodeWithout := List.mem_of_getElem? (i := 2) (by decide +kernel)
set_option maxHeartbeats 4000000 in
set_option maxRecDepth 100000 in
theorem s_firstCodeWithout (l : Launch) (D : va_G) (cI cB cZ cO : ClassId) (hq : Nat) (b1 : Nat) (b2 : Nat) (b3 : Nat) (b4 : Nat) (b5 : Nat) (np : Nat) (sed : Nat) (sac : Nat) (kd : Nat) (va : Nat) (bs9 : Nat) (bp9 : Nat) (po : Nat → Nat) (ph : Nat → Nat) (pf : Nat → Nat) (st1 : Nat) (hnp : np ≤ 160) (hpo : ∀ k, po k < 65536) (hph : ∀ k, ph k < 65536) (hst : st1 < 65536) : Met l yX3_firstCodeWithout wsX3_firstCodeWithout ({ frames := 1, cells := 0, slots := 0, locals := 22 }) (va_Pc [.ref hq, .int (iI ((st1 : Nat) : Int))] (RO D cI cB cZ cO [(hq, .inr (3, [.ref b1, .ref b2, .ref b3, .ref b4, .int (iI ((np : Nat) : Int)), .ref b5, .int (iI ((sed : Nat) : Int)), .int (iI ((sac : Nat) : Int)), .int (iI ((kd : Nat) : Int)), .int (iI ((va : Nat) : Int)), .int (iI ((bs9 : Nat) : Int)), .int (iI ((bp9 : Nat) : Int))])), (b1, .inl (cI, 160, .inl (rN (po)))), (b2, .inl (cI, 160, .inl (rN (ph)))), (b4, .inl (cI, 160, .inl (rN (pf))))])) (QO (if fsF (pvb po ph st1) np < np then ((pf (fsF (pvb po ph st1) np) : Nat) : Int) else -9)) 0 0 (fun _ => False) := by
  refine startO (cc := cX3_firstCodeWithout) (maxL := 3) (ret := (some .int)) (by decide) rfl (Nat.le_of_ble_eq_true rfl) ?_
  intro p e s m below meth c S hr hlocks hE hP ls hl
  have hx := S.1
  have hb := S.2.1
  have hown := S.2.2.2.1
  have hts := S.2.2.2.2
  have hK := hE.1
  have hl : lv_has ls 3 [(0, .ref hq), (1, .int (iI ((st1 : Nat) : Int)))] := hl
  refine r_iconst hx hb dX3_firstCodeWithout_0 ?_
  refine lv_istore_n (lv' := [(2, .int (iI 0)), (0, .ref hq), (1, .int (iI ((st1 : Nat) : Int)))]) hx hb dX3_firstCodeWithout_1 rfl hl (by decide) rfl (fun ls hl => ?_)
  have loop_2 : ∀ (n_2 : Nat) (k : Nat), (np - k) < n_2 → (k ≤ np) → (∀ j, j < k → ¬ pvb po ph st1 j = true) → ∀ (ls : Array Slot), lv_has ls 3 [(0, .ref hq), (1, .int (iI ((st1 : Nat) : Int))), (2, .int (iI ((k : Nat) : Int)))] → W p l e ({ frames := 1, cells := 0, slots := 0, locals := 22 }) s m ([.ref hq, .int (iI ((st1 : Nat) : Int))] : List Value).toArray below meth c s.heap [] 0 0 (MQ below (QO (if fsF (pvb po ph st1) np < np then ((pf (fsF (pvb po ph st1) np) : Nat) : Int) else -9)) ([.ref hq, .int (iI ((st1 : Nat) : Int))] : List Value).toArray s 0 0 (fun _ => False)) (F0 m 2 ls []) := by
    intro n_2
    induction n_2 with
    | zero => intro k h_meas; exact absurd h_meas (Nat.not_lt_zero _)
    | succ n_2 ih_2 =>
      intro k h_m2 ik ip ls hl
      refine lv_iload_n hx hb dX3_firstCodeWithout_2 rfl (lv_at hl 2 rfl) ?_
      refine lv_aload_n hx hb dX3_firstCodeWithout_3 rfl (lv_at hl 0 rfl) ?_
      refine va_get (D := D) (ci := 3) (v := .int (iI ((np : Nat) : Int))) (C := RX3) (T := TX3) (N := 12) hx hb hts nX3_firstCodeWithout_X3 hown hK hP 0 rfl rfl 4 (by decide) (hts _ kX3_firstCodeWithout_52) (fun _ h9 => h9) rfl dX3_firstCodeWithout_4 ?_
      refine r_icmp_ge (tgt := 32) hx hb (by first | omega | (rw [fsF_eq ip (by omega) (fun _ => by assumption), if_pos (by omega)]) | (rw [fsF_eq ip (by omega) (fun q => by omega), if_neg (by omega)])) (by first | omega | (rw [fsF_eq ip (by omega) (fun _ => by assumption), if_pos (by omega)]) | (rw [fsF_eq ip (by omega) (fun q => by omega), if_neg (by omega)])) dX3_firstCodeWithout_7 (by decide) (fun c_1 => ?_) (fun c_1 => ?_)
      · skip
        refine r_bipush hx hb dX3_firstCodeWithout_32 (by decide) ?_
        exact r_iretO hx hb hr hlocks (by first | omega | (rw [fsF_eq ip (by omega) (fun _ => by assumption), if_pos (by omega)]) | (rw [fsF_eq ip (by omega) (fun q => by omega), if_neg (by omega)])) dX3_firstCodeWithout_34
      · skip
        refine lv_aload_n hx hb dX3_firstCodeWithout_10 rfl (lv_at hl 0 rfl) ?_
        refine lv_iload_n hx hb dX3_firstCodeWithout_11 rfl (lv_at hl 2 rfl) ?_
        refine lv_iload_n hx hb dX3_firstCodeWithout_12 rfl (lv_at hl 1 rfl) ?_
        refine callVO (n := 2) (As := [.int (iI ((k : Nat) : Int)), .int (iI ((st1 : Nat) : Int))]) (rest := []) (wc := [(hq, .inr (3, [.ref b1, .ref b2, .ref b3, .ref b4, .int (iI ((np : Nat) : Int)), .ref b5, .int (iI ((sed : Nat) : Int)), .int (iI ((sac : Nat) : Int)), .int (iI ((kd : Nat) : Int)), .int (iI ((va : Nat) : Int)), .int (iI ((bs9 : Nat) : Int)), .int (iI ((bp9 : Nat) : Int))])), (b1, .inl (cI, 160, .inl (rN (po)))), (b2, .inl (cI, 160, .inl (rN (ph))))]) S (s_isPieceVisible l D cI cB cZ cO hq b1 b2 b3 b4 b5 np sed sac kd va bs9 bp9 po ph k st1 (by first | assumption | (first | omega | (rw [fsF_eq ip (by omega) (fun _ => by assumption), if_pos (by omega)]) | (rw [fsF_eq ip (by omega) (fun q => by omega), if_neg (by omega)]))) (by first | assumption | (first | omega | (rw [fsF_eq ip (by omega) (fun _ => by assumption), if_pos (by omega)]) | (rw [fsF_eq ip (by omega) (fun q => by omega), if_neg (by omega)]))) (by first | assumption | (first | omega | (rw [fsF_eq ip (by omega) (fun _ => by assumption), if_pos (by omega)]) | (rw [fsF_eq ip (by omega) (fun q => by omega), if_neg (by omega)]))) (by first | assumption | (first | omega | (rw [fsF_eq ip (by omega) (fun _ => by assumption), if_pos (by omega)]) | (rw [fsF_eq ip (by omega) (fun q => by omega), if_neg (by omega)])))) gX3_firstCodeWithout_X3_isPieceVisible rfl ⟨rfl, rfl⟩ (by decide +kernel) ⟨Nat.le_of_ble_eq_true rfl, Nat.le_of_ble_eq_true rfl⟩ hE hP [0, 1, 2] rfl 3 0 rfl rfl rfl hl.1 rfl (Nat.le_of_ble_eq_true rfl) dX3_firstCodeWithout_13 ⟨Nat.le_of_ble_eq_true rfl, Nat.le_of_ble_eq_true rfl⟩ ?_
        refine r_ifb_eq (tgt := 26) hx hb dX3_firstCodeWithout_16 (by decide) (fun c_2 => ?_) (fun c_2 => ?_)
        · skip
          refine lv_iinc (v := iI ((k + 1 : Nat) : Int)) (lv' := [(2, .int (iI ((k + 1 : Nat) : Int))), (0, .ref hq), (1, .int (iI ((st1 : Nat) : Int)))]) hx hb dX3_firstCodeWithout_26 hl (k := 2) rfl ((iI_add _ _).trans (ii (rfl))) (by decide) rfl (fun ls hl => ?_)
          refine lv_goto (tgt := 2) hx hb dX3_firstCodeWithout_29 (by decide) ?_
          exact ih_2 (k + 1) (by first | omega | (rw [fsF_eq ip (by omega) (fun _ => by assumption), if_pos (by omega)]) | (rw [fsF_eq ip (by omega) (fun q => by omega), if_neg (by omega)])) (by first | assumption | (first | omega | (rw [fsF_eq ip (by omega) (fun _ => by assumption), if_pos (by omega)]) | (rw [fsF_eq ip (by omega) (fun q => by omega), if_neg (by omega)]))) (by intro j hj; rcases Nat.lt_or_eq_of_le (Nat.le_of_lt_succ hj) with q | q; exact ip j q; rw [q]; assumption) ls (lv_sub hl [1, 2, 0] rfl)
        · skip
          refine lv_aload_n hx hb dX3_firstCodeWithout_19 rfl (lv_at hl 0 rfl) ?_
          refine va_get (D := D) (ci := 3) (v := .ref b4) (C := RX3) (T := TX3) (N := 12) hx hb hts nX3_firstCodeWithout_X3 hown hK hP 0 rfl rfl 3 (by decide) (hts _ kX3_firstCodeWithout_21) (fun _ h9 => h9) rfl dX3_firstCodeWithout_20 ?_
          refine lv_iload_n hx hb dX3_firstCodeWithout_23 rfl (lv_at hl 2 rfl) ?_
          refine r_ialdN hx hb hK hP 3 0 rfl rfl (k) (rfl) (by first | omega | (rw [fsF_eq ip (by omega) (fun _ => by assumption), if_pos (by omega)]) | (rw [fsF_eq ip (by omega) (fun q => by omega), if_neg (by omega)])) (by decide) dX3_firstCodeWithout_24 ?_
          exact r_iretO hx hb hr hlocks (by first | omega | (rw [fsF_eq ip (by omega) (fun _ => by assumption), if_pos (by omega)]) | (rw [fsF_eq ip (by omega) (fun q => by omega), if_neg (by omega)])) dX3_firstCodeWithout_25
  exact loop_2 ((np - 0) + 1) 0 (by first | omega | (rw [fsF_eq ip (by omega) (fun _ => by assumption), if_pos (by omega)]) | (rw [fsF_eq ip (by omega) (fun q => by omega), if_neg (by omega)])) (by first | assumption | (first | omega | (rw [fsF_eq ip (by omega) (fun _ => by assumption), if_pos (by omega)]) | (rw [fsF_eq ip (by omega) (fun q => by omega), if_neg (by omega)]))) (by intro j hj; omega) ls (lv_sub hl [1, 2, 0] rfl)

theorem mlX3_editsBelow_109 : Cond.methodLink RX3 109 Lib.Math.min.name ∈ wsX3_editsBelow := List.mem_of_getElem? (i := 1) (by decide +kernel)
theorem msX3_editsBelow_min : Cond.static Lib.Math.min.name ∈ wsX3_editsBelow := List.mem_of_getElem? (i := 2) (by decide +kernel)
theorem miX3_editsBelow : Cond.initialized "java/lang/Math" ∈ wsX3_editsBelow := List.mem_of_getElem? (i := 3) (by decide +kernel)
theorem mcX3_editsBelow_min : Cond.code Lib.Math.min.name Lib.Math.min.code 2 (some .int) ∈ wsX3_editsBelow := List.mem_of_getElem? (i := 4) (by decide +kernel)
theorem iX3_editsBelow_X4 : Cond.initialized RX4 ∈ wsX3_editsBelow := List.mem_of_getElem? (i := 6) (by decide +kernel)
theorem sX3_editsBelow_X4_single : Cond.static yX4_single ∈ wsX3_editsBelow := List.mem_of_getElem? (i := 5) (by decide +kernel)
set_option maxHeartbeats 4000000 in
set_option maxRecDepth 100000 in
theorem s_editsBelow (l : Launch) (D : va_G) (cI cB cZ cO : ClassId) (v1 : Nat) (hv1 : v1 ≤ 126) : Met l yX3_editsBelow wsX3_editsBelow ({ frames := 1, cells := 0, slots := 0, locals := 21 }) (va_Pc [.int (iI ((v1 : Nat) : Int))] (RO D cI cB cZ cO [])) (QO ((2 ^ (min v1 16) - 1 : Nat) : Int)) 0 0 (fun _ => False) := by
  refine startO (cc := cX3_editsBelow) (maxL := 1) (ret := (some .int)) (by decide) rfl (Nat.le_of_ble_eq_true rfl) ?_
  intro p e s m below meth c S hr hlocks hE hP ls hl
  have hx := S.1
  have hb := S.2.1
  have hown := S.2.2.2.1
  have hts := S.2.2.2.2
  have hK := hE.1
  have hl : lv_has ls 1 [(0, .int (iI ((v1 : Nat) : Int)))] := hl
  refine lv_iload_n hx hb dX3_editsBelow_0 rfl (lv_at hl 0 rfl) ?_
  refine r_bipush hx hb dX3_editsBelow_1 (by decide) ?_
  refine r_mmin (v := ((min v1 16 : Nat) : Int)) hx hb (S.2.2.1.trans hl.1.symm) hown (hts _ mlX3_editsBelow_109) (hts _ msX3_editsBelow_min) (hts _ miX3_editsBelow) (hts _ mcX3_editsBelow_min) (Nat.le_of_ble_eq_true rfl) (Nat.le_of_ble_eq_true rfl) (Nat.le_of_ble_eq_true rfl) (Nat.le_of_ble_eq_true rfl) (by omega) (⟨by decide, by decide⟩) (by omega) dX3_editsBelow_3 ?_
  refine callNO (n := 1) (As := [.int (iI ((min v1 16 : Nat) : Int))]) (rest := []) (wc := []) S (c_single l D cI cB cZ cO (min v1 16) (by first | assumption | (omega))) gX3_editsBelow_X4_single_n115 rfl ⟨rfl, rfl⟩ (hE.2.m 7 rfl) (hts _ iX3_editsBelow_X4) (hts _ sX3_editsBelow_X4_single) (by decide +kernel) ⟨Nat.le_of_ble_eq_true rfl, Nat.le_of_ble_eq_true rfl⟩ hE hP [] rfl rfl hl.1 rfl (Nat.le_of_ble_eq_true rfl) dX3_editsBelow_6 ⟨Nat.le_of_ble_eq_true rfl, Nat.le_of_ble_eq_true rfl⟩ ?_
  refine r_iconst hx hb dX3_editsBelow_9 ?_
  refine r_isub (v := ((2 ^ (min v1 16) - 1 : Nat) : Int)) hx hb (by have h9 := Nat.two_pow_pos (min v1 16); omega) dX3_editsBelow_10 ?_
  exact r_iretO hx hb hr hlocks (rfl) dX3_editsBelow_11

theorem kX3_costOf_39 : Cond.fieldLink RX3 39 "PricedUndo$Search" "edits" "I" ∈ wsX3_costOf := List.mem_of_getElem? (i := 1) (by decide +kernel)
theorem nX3_costOf_X3 : ∀ w ∈ u_ws RX3 TX3 12, w ∈ wsX3_costOf := in_lay 6 (by decide +kernel)
theorem iX3_costOf_X4 : Cond.initialized RX4 ∈ wsX3_costOf := List.mem_of_getElem? (i := 4) (by decide +kernel)
theorem sX3_costOf_X4_has : Cond.static yX4_has ∈ wsX3_costOf := List.mem_of_getElem? (i := 3) (by decide +kernel)
theorem kX3_costOf_24 : Cond.fieldLink RX3 24 "PricedUndo$Search" "prices" "[I" ∈ wsX3_costOf := List.mem_of_getElem? (i := 2) (by decide +kernel)
set_option maxHeartbeats 4000000 in
set_option maxRecDepth 100000 in
theorem s_costOf (l : Launch) (D : va_G) (cI cB cZ cO : ClassId) (hq : Nat) (b1 : Nat) (b2 : Nat) (b3 : Nat) (b4 : Nat) (b5 : Nat) (np : Nat) (sed : Nat) (sac : Nat) (kd : Nat) (va : Nat) (bs9 : Nat) (bp9 : Nat) (spr : Nat → Nat) (st1 : Nat) (hsed : sed ≤ 16) (hst : st1 < 65536) : Met l yX3_costOf wsX3_costOf ({ frames := 1, cells := 0, slots := 0, locals := 21 }) (va_Pc [.ref hq, .int (iI ((st1 : Nat) : Int))] (RO D cI cB cZ cO [(hq, .inr (3, [.ref b1, .ref b2, .ref b3, .ref b4, .int (iI ((np : Nat) : Int)), .ref b5, .int (iI ((sed : Nat) : Int)), .int (iI ((sac : Nat) : Int)), .int (iI ((kd : Nat) : Int)), .int (iI ((va : Nat) : Int)), .int (iI ((bs9 : Nat) : Int)), .int (iI ((bp9 : Nat) : Int))])), (b5, .inl (cI, 16, .inl (rN (spr))))])) (QO ((psm spr st1 sed : Nat) : Int)) 0 0 (fun _ => False) := by
  refine startO (cc := cX3_costOf) (maxL := 4) (ret := (some .int)) (by decide) rfl (Nat.le_of_ble_eq_true rfl) ?_
  intro p e s m below meth c S hr hlocks hE hP ls hl
  have hx := S.1
  have hb := S.2.1
  have hown := S.2.2.2.1
  have hts := S.2.2.2.2
  have hK := hE.1
  have hl : lv_has ls 4 [(0, .ref hq), (1, .int (iI ((st1 : Nat) : Int)))] := hl
  refine r_iconst hx hb dX3_costOf_0 ?_
  refine lv_istore_n (lv' := [(2, .int (iI 0)), (0, .ref hq), (1, .int (iI ((st1 : Nat) : Int)))]) hx hb dX3_costOf_1 rfl hl (by decide) rfl (fun ls hl => ?_)
  refine r_iconst hx hb dX3_costOf_2 ?_
  refine lv_istore_n (lv' := [(3, .int (iI 0)), (2, .int (iI 0)), (0, .ref hq), (1, .int (iI ((st1 : Nat) : Int)))]) hx hb dX3_costOf_3 rfl hl (by decide) rfl (fun ls hl => ?_)
  have loop_4 : ∀ (n_4 : Nat) (k : Nat), (sed - k) < n_4 → (k ≤ sed) → ∀ (ls : Array Slot), lv_has ls 4 [(0, .ref hq), (1, .int (iI ((st1 : Nat) : Int))), (2, .int (iI ((psm spr st1 k : Nat) : Int))), (3, .int (iI ((k : Nat) : Int)))] → W p l e ({ frames := 1, cells := 0, slots := 0, locals := 21 }) s m ([.ref hq, .int (iI ((st1 : Nat) : Int))] : List Value).toArray below meth c s.heap [] 0 0 (MQ below (QO ((psm spr st1 sed : Nat) : Int)) ([.ref hq, .int (iI ((st1 : Nat) : Int))] : List Value).toArray s 0 0 (fun _ => False)) (F0 m 4 ls []) := by
    intro n_4
    induction n_4 with
    | zero => intro k h_meas; exact absurd h_meas (Nat.not_lt_zero _)
    | succ n_4 ih_4 =>
      intro k h_m4 ik ls hl
      refine lv_iload_n hx hb dX3_costOf_4 rfl (lv_at hl 3 rfl) ?_
      refine lv_aload_n hx hb dX3_costOf_5 rfl (lv_at hl 0 rfl) ?_
      refine va_get (D := D) (ci := 3) (v := .int (iI ((sed : Nat) : Int))) (C := RX3) (T := TX3) (N := 12) hx hb hts nX3_costOf_X3 hown hK hP 0 rfl rfl 6 (by decide) (hts _ kX3_costOf_39) (fun _ h9 => h9) rfl dX3_costOf_6 ?_
      refine r_icmp_ge (tgt := 35) hx hb (by first | omega | (rw [show k = sed by omega])) (by first | omega | (rw [show k = sed by omega])) dX3_costOf_9 (by decide) (fun c_1 => ?_) (fun c_1 => ?_)
      · skip
        refine lv_iload_n hx hb dX3_costOf_35 rfl (lv_at hl 2 rfl) ?_
        exact r_iretO hx hb hr hlocks (by first | omega | (rw [show k = sed by omega])) dX3_costOf_36
      · skip
        refine lv_iload_n hx hb dX3_costOf_12 rfl (lv_at hl 1 rfl) ?_
        refine lv_iload_n hx hb dX3_costOf_13 rfl (lv_at hl 3 rfl) ?_
        refine callNO (n := 2) (As := [.int (iI ((st1 : Nat) : Int)), .int (iI ((k : Nat) : Int))]) (rest := []) (wc := []) S (c_has l D cI cB cZ cO st1 k (by first | assumption | (first | omega | (rw [show k = sed by omega]))) (by first | assumption | (first | omega | (rw [show k = sed by omega])))) gX3_costOf_X4_has_n44 rfl ⟨rfl, rfl⟩ (hE.2.m 6 rfl) (hts _ iX3_costOf_X4) (hts _ sX3_costOf_X4_has) (by decide +kernel) ⟨Nat.le_of_ble_eq_true rfl, Nat.le_of_ble_eq_true rfl⟩ hE hP [] rfl rfl hl.1 rfl (Nat.le_of_ble_eq_true rfl) dX3_costOf_14 ⟨Nat.le_of_ble_eq_true rfl, Nat.le_of_ble_eq_true rfl⟩ ?_
        refine r_ifb_eq (tgt := 29) hx hb dX3_costOf_17 (by decide) (fun c_2 => ?_) (fun c_2 => ?_)
        · skip
          refine lv_iinc (v := iI ((k + 1 : Nat) : Int)) (lv' := [(3, .int (iI ((k + 1 : Nat) : Int))), (0, .ref hq), (1, .int (iI ((st1 : Nat) : Int))), (2, .int (iI ((psm spr st1 k : Nat) : Int)))]) hx hb dX3_costOf_29 hl (k := 3) rfl ((iI_add _ _).trans (ii (rfl))) (by decide) rfl (fun ls hl => ?_)
          refine lv_goto (tgt := 4) hx hb dX3_costOf_32 (by decide) ?_
          have hl : lv_has ls 4 [(3, .int (iI ((k + 1 : Nat) : Int))), (0, .ref hq), (1, .int (iI ((st1 : Nat) : Int))), (2, .int (iI ((psm spr st1 (k + 1) : Nat) : Int)))] := lv_chg hl 3 2 rfl (show (((psm spr st1 k : Nat) : Int) : Int) = ((psm spr st1 (k + 1) : Nat) : Int) from by first | (rw [psm_t (by assumption)]) | (rw [psm_f (by assumption)])) rfl
          exact ih_4 (k + 1) (by first | omega | (rw [show k = sed by omega])) (by first | assumption | (first | omega | (rw [show k = sed by omega]))) ls (lv_sub hl [1, 2, 3, 0] rfl)
        · skip
          refine lv_iload_n hx hb dX3_costOf_20 rfl (lv_at hl 2 rfl) ?_
          refine lv_aload_n hx hb dX3_costOf_21 rfl (lv_at hl 0 rfl) ?_
          refine va_get (D := D) (ci := 3) (v := .ref b5) (C := RX3) (T := TX3) (N := 12) hx hb hts nX3_costOf_X3 hown hK hP 0 rfl rfl 5 (by decide) (hts _ kX3_costOf_24) (fun _ h9 => h9) rfl dX3_costOf_22 ?_
          refine lv_iload_n hx hb dX3_costOf_25 rfl (lv_at hl 3 rfl) ?_
          refine r_ialdN hx hb hK hP 1 0 rfl rfl (k) (rfl) (by first | omega | (rw [show k = sed by omega])) (by decide) dX3_costOf_26 ?_
          refine r_iadd (v := (((psm spr st1 k) + (spr k) : Nat) : Int)) hx hb (rfl) dX3_costOf_27 ?_
          refine lv_istore_n (lv' := [(2, .int (iI (((psm spr st1 k) + (spr k) : Nat) : Int))), (0, .ref hq), (1, .int (iI ((st1 : Nat) : Int))), (3, .int (iI ((k : Nat) : Int)))]) hx hb dX3_costOf_28 rfl hl (by decide) rfl (fun ls hl => ?_)
          refine lv_iinc (v := iI ((k + 1 : Nat) : Int)) (lv' := [(3, .int (iI ((k + 1 : Nat) : Int))), (2, .int (iI (((psm spr st1 k) + (spr k) : Nat) : Int))), (0, .ref hq), (1, .int (iI ((st1 : Nat) : Int)))]) hx hb dX3_costOf_29 hl (k := 3) rfl ((iI_add _ _).trans (ii (rfl))) (by decide) rfl (fun ls hl => ?_)
          refine lv_goto (tgt := 4) hx hb dX3_costOf_32 (by decide) ?_
          have hl : lv_has ls 4 [(3, .int (iI ((k + 1 : Nat) : Int))), (2, .int (iI ((psm spr st1 (k + 1) : Nat) : Int))), (0, .ref hq), (1, .int (iI ((st1 : Nat) : Int)))] := lv_chg hl 1 2 rfl (show ((((psm spr st1 k) + (spr k) : Nat) : Int) : Int) = ((psm spr st1 (k + 1) : Nat) : Int) from by first | (rw [psm_t (by assumption)]) | (rw [psm_f (by assumption)])) rfl
          exact ih_4 (k + 1) (by first | omega | (rw [show k = sed by omega])) (by first | assumption | (first | omega | (rw [show k = sed by omega]))) ls (lv_sub hl [2, 3, 1, 0] rfl)
  have hl : lv_has ls 4 [(3, .int (iI 0)), (2, .int (iI ((psm spr st1 0 : Nat) : Int))), (0, .ref hq), (1, .int (iI ((st1 : Nat) : Int)))] := lv_chg hl 1 2 rfl (show (0 : Int) = ((psm spr st1 0 : Nat) : Int) from by rfl) rfl
  exact loop_4 ((sed - 0) + 1) 0 (by first | omega | (rw [show k = sed by omega])) (by first | assumption | (first | omega | (rw [show k = sed by omega]))) ls (lv_sub hl [2, 3, 1, 0] rfl)

theorem kX3_isBetter_91 : Cond.fieldLink RX3 91 "PricedUndo$Search" "bestSet" "I" ∈ wsX3_isBetter := List.mem_of_getElem? (i := 1) (by decide +kernel)
theorem nX3_isBetter_X3 : ∀ w ∈ u_ws RX3 TX3 12, w ∈ wsX3_isBetter := in_lay 10 (by decide +kernel)
theorem kX3_isBetter_94 : Cond.fieldLink RX3 94 "PricedUndo$Search" "bestPrice" "I" ∈ wsX3_isBetter := List.mem_of_getElem? (i := 2) (by decide +kernel)
set_option maxHeartbeats 4000000 in
set_option maxRecDepth 100000 in
theorem s_isBetter (l : Launch) (D : va_G) (cI cB cZ cO : ClassId) (hq : Nat) (b1 : Nat) (b2 : Nat) (b3 : Nat) (b4 : Nat) (b5 : Nat) (np : Nat) (sed : Nat) (sac : Nat) (kd : Nat) (va : Nat) (bs9 : Nat) (bp9 : Nat) (st1 : Nat) (c1 : Nat) (hst : st1 < 65536) (hc1 : c1 < 65536) (hbs : bs9 < 65536) (hbp : bp9 < 65536) : Met l yX3_isBetter wsX3_isBetter ({ frames := 1, cells := 0, slots := 0, locals := 20 }) (va_Pc [.ref hq, .int (iI ((st1 : Nat) : Int)), .int (iI ((c1 : Nat) : Int))] (RO D cI cB cZ cO [(hq, .inr (3, [.ref b1, .ref b2, .ref b3, .ref b4, .int (iI ((np : Nat) : Int)), .ref b5, .int (iI ((sed : Nat) : Int)), .int (iI ((sac : Nat) : Int)), .int (iI ((kd : Nat) : Int)), .int (iI ((va : Nat) : Int)), .int (iI ((bs9 : Nat) : Int)), .int (iI ((bp9 : Nat) : Int))]))])) (QO (bI (c1 < bp9 ∨ (c1 = bp9 ∧ popc st1 < popc bs9)))) 0 0 (fun _ => False) := by
  refine startO (cc := cX3_isBetter) (maxL := 4) (ret := (some .boolean)) (by decide) rfl (Nat.le_of_ble_eq_true rfl) ?_
  intro p e s m below meth c S hr hlocks hE hP ls hl
  have hx := S.1
  have hb := S.2.1
  have hown := S.2.2.2.1
  have hts := S.2.2.2.2
  have hK := hE.1
  have hl : lv_has ls 4 [(0, .ref hq), (1, .int (iI ((st1 : Nat) : Int))), (2, .int (iI ((c1 : Nat) : Int)))] := hl
  have hp1 : popc st1 ≤ 16 := cnt_le _ _
  have hp2 : popc bs9 ≤ 16 := cnt_le _ _
  refine lv_iload_n hx hb dX3_isBetter_0 rfl (lv_at hl 1 rfl) ?_
  refine callFO (n := 1) (As := [.int (iI ((st1 : Nat) : Int))]) (rest := []) (wc := []) S (c_bitCount l D cI cB cZ cO st1 (by first | assumption | (omega))) gX3_isBetter_J6_bitCount_0f7a4 rfl ⟨rfl, rfl⟩ (by decide +kernel) ⟨Nat.le_of_ble_eq_true rfl, Nat.le_of_ble_eq_true rfl⟩ hE hP [] rfl rfl hl.1 rfl (Nat.le_of_ble_eq_true rfl) dX3_isBetter_1 ⟨Nat.le_of_ble_eq_true rfl, Nat.le_of_ble_eq_true rfl⟩ ?_
  refine lv_aload_n hx hb dX3_isBetter_4 rfl (lv_at hl 0 rfl) ?_
  refine va_get (D := D) (ci := 3) (v := .int (iI ((bs9 : Nat) : Int))) (C := RX3) (T := TX3) (N := 12) hx hb hts nX3_isBetter_X3 hown hK hP 0 rfl rfl 10 (by decide) (hts _ kX3_isBetter_91) (fun _ h9 => h9) rfl dX3_isBetter_5 ?_
  refine callFO (n := 1) (As := [.int (iI ((bs9 : Nat) : Int))]) (rest := [.int (iI ((popc st1 : Nat) : Int))]) (wc := []) S (c_bitCount l D cI cB cZ cO bs9 (by first | assumption | (omega))) gX3_isBetter_J6_bitCount_0f7a4 rfl ⟨rfl, rfl⟩ (by decide +kernel) ⟨Nat.le_of_ble_eq_true rfl, Nat.le_of_ble_eq_true rfl⟩ hE hP [] rfl rfl hl.1 rfl (Nat.le_of_ble_eq_true rfl) dX3_isBetter_8 ⟨Nat.le_of_ble_eq_true rfl, Nat.le_of_ble_eq_true rfl⟩ ?_
  refine r_icmp_ge (tgt := 18) hx hb (by omega) (by omega) dX3_isBetter_11 (by decide) (fun c_1 => ?_) (fun c_1 => ?_)
  · skip
    refine r_iconst hx hb dX3_isBetter_18 ?_
    refine lv_istore_n (lv' := [(3, .int (iI 0)), (0, .ref hq), (1, .int (iI ((st1 : Nat) : Int))), (2, .int (iI ((c1 : Nat) : Int)))]) hx hb dX3_isBetter_19 rfl hl (by decide) rfl (fun ls hl => ?_)
    refine lv_iload_n hx hb dX3_isBetter_20 rfl (lv_at hl 3 rfl) ?_
    refine lv_aload_n hx hb dX3_isBetter_21 rfl (lv_at hl 1 rfl) ?_
    refine va_get (D := D) (ci := 3) (v := .int (iI ((bp9 : Nat) : Int))) (C := RX3) (T := TX3) (N := 12) hx hb hts nX3_isBetter_X3 hown hK hP 0 rfl rfl 11 (by decide) (hts _ kX3_isBetter_94) (fun _ h9 => h9) rfl dX3_isBetter_22 ?_
    refine r_icmp_lt (tgt := 40) hx hb (by omega) (by omega) dX3_isBetter_25 (by decide) (fun c_2 => ?_) (fun c_2 => ?_)
    · skip
      refine r_iconst hx hb dX3_isBetter_40 ?_
      refine lv_goto (tgt := 45) hx hb dX3_isBetter_41 (by decide) ?_
      exact r_zretO hx hb hr hlocks ((bI_t (by omega)).symm) (Or.inr rfl) dX3_isBetter_45
    · skip
      refine lv_iload_n hx hb dX3_isBetter_28 rfl (lv_at hl 3 rfl) ?_
      refine lv_aload_n hx hb dX3_isBetter_29 rfl (lv_at hl 1 rfl) ?_
      refine va_get (D := D) (ci := 3) (v := .int (iI ((bp9 : Nat) : Int))) (C := RX3) (T := TX3) (N := 12) hx hb hts nX3_isBetter_X3 hown hK hP 0 rfl rfl 11 (by decide) (hts _ kX3_isBetter_94) (fun _ h9 => h9) rfl dX3_isBetter_30 ?_
      refine r_icmp_ne (tgt := 44) hx hb (by omega) (by omega) dX3_isBetter_33 (by decide) (fun c_3 => ?_) (fun c_3 => ?_)
      · skip
        refine r_iconst hx hb dX3_isBetter_44 ?_
        exact r_zretO hx hb hr hlocks ((bI_f (by omega)).symm) (Or.inl rfl) dX3_isBetter_45
      · skip
        refine lv_iload_n hx hb dX3_isBetter_36 rfl (lv_at hl 0 rfl) ?_
        refine r_if_eq (tgt := 44) hx hb (⟨by decide, by decide⟩) dX3_isBetter_37 (by decide) (fun c_4 => ?_) (fun c_4 => ?_)
        · skip
          refine r_iconst hx hb dX3_isBetter_44 ?_
          exact r_zretO hx hb hr hlocks ((bI_f (by omega)).symm) (Or.inl rfl) dX3_isBetter_45
        · skip
          exact absurd c_4 (by decide)
  · skip
    refine r_iconst hx hb dX3_isBetter_14 ?_
    refine lv_goto (tgt := 19) hx hb dX3_isBetter_15 (by decide) ?_
    refine lv_istore_n (lv' := [(3, .int (iI 1)), (0, .ref hq), (1, .int (iI ((st1 : Nat) : Int))), (2, .int (iI ((c1 : Nat) : Int)))]) hx hb dX3_isBetter_19 rfl hl (by decide) rfl (fun ls hl => ?_)
    refine lv_iload_n hx hb dX3_isBetter_20 rfl (lv_at hl 3 rfl) ?_
    refine lv_aload_n hx hb dX3_isBetter_21 rfl (lv_at hl 1 rfl) ?_
    refine va_get (D := D) (ci := 3) (v := .int (iI ((bp9 : Nat) : Int))) (C := RX3) (T := TX3) (N := 12) hx hb hts nX3_isBetter_X3 hown hK hP 0 rfl rfl 11 (by decide) (hts _ kX3_isBetter_94) (fun _ h9 => h9) rfl dX3_isBetter_22 ?_
    refine r_icmp_lt (tgt := 40) hx hb (by omega) (by omega) dX3_isBetter_25 (by decide) (fun c_5 => ?_) (fun c_5 => ?_)
    · skip
      refine r_iconst hx hb dX3_isBetter_40 ?_
      refine lv_goto (tgt := 45) hx hb dX3_isBetter_41 (by decide) ?_
      exact r_zretO hx hb hr hlocks ((bI_t (by omega)).symm) (Or.inr rfl) dX3_isBetter_45
    · skip
      refine lv_iload_n hx hb dX3_isBetter_28 rfl (lv_at hl 3 rfl) ?_
      refine lv_aload_n hx hb dX3_isBetter_29 rfl (lv_at hl 1 rfl) ?_
      refine va_get (D := D) (ci := 3) (v := .int (iI ((bp9 : Nat) : Int))) (C := RX3) (T := TX3) (N := 12) hx hb hts nX3_isBetter_X3 hown hK hP 0 rfl rfl 11 (by decide) (hts _ kX3_isBetter_94) (fun _ h9 => h9) rfl dX3_isBetter_30 ?_
      refine r_icmp_ne (tgt := 44) hx hb (by omega) (by omega) dX3_isBetter_33 (by decide) (fun c_6 => ?_) (fun c_6 => ?_)
      · skip
        refine r_iconst hx hb dX3_isBetter_44 ?_
        exact r_zretO hx hb hr hlocks ((bI_f (by omega)).symm) (Or.inl rfl) dX3_isBetter_45
      · skip
        refine lv_iload_n hx hb dX3_isBetter_36 rfl (lv_at hl 0 rfl) ?_
        refine r_if_eq (tgt := 44) hx hb (⟨by decide, by decide⟩) dX3_isBetter_37 (by decide) (fun c_7 => ?_) (fun c_7 => ?_)
        · skip
          exact absurd c_7 (by decide)
        · skip
          refine r_iconst hx hb dX3_isBetter_40 ?_
          refine lv_goto (tgt := 45) hx hb dX3_isBetter_41 (by decide) ?_
          exact r_zretO hx hb hr hlocks ((bI_t (by omega)).symm) (Or.inr rfl) dX3_isBetter_45
