theorem kX0_priceOf_56 : Cond.fieldLink RX0 56 "PricedUndo$Buffer" "active" "I" ∈ wsX0_priceOf := by decide +kernel
theorem nX0_priceOf_X0 : ∀ w ∈ u_ws RX0 TX0 11, w ∈ wsX0_priceOf := by decide +kernel
theorem kX0_priceOf_59 : Cond.fieldLink RX0 59 "PricedUndo$Buffer" "cursor" "I" ∈ wsX0_priceOf := by decide +kernel
theorem mlX0_priceOf_135 : Cond.methodLink RX0 135 Lib.Math.abs.name ∈ wsX0_priceOf := by decide +kernel
theorem msX0_priceOf_abs : Cond.static Lib.Math.abs.name ∈ wsX0_priceOf := by decide +kernel
theorem miX0_priceOf : Cond.initialized "java/lang/Math" ∈ wsX0_priceOf := by decide +kernel
theorem mcX0_priceOf_abs : Cond.code Lib.Math.abs.name Lib.Math.abs.code 1 (some .int) ∈ wsX0_priceOf := by decide +kernel
set_option maxHeartbeats 4000000 in
set_option maxRecDepth 100000 in
theorem c_priceOf (l : Launch) (D : va_G) (cI cB cZ cO : ClassId) (h : Nat) (a1 : Nat) (a2 : Nat) (a3 : Nat) (a4 : Nat) (a5 : Nat) (tt : Nat) (ln : Nat) (ed : Nat) (es : Nat) (ac : Nat) (cu : Nat) (ow : Nat → Nat) (er : Nat → Nat) (e1 : Nat) (ag : Nat) (di : Nat) (htt : tt ≤ 160) (he1 : e1 < 16) (hac : ac < 65536) (hcu : cu ≤ 60) (how : ∀ k, ow k < 65536) (her : ∀ k, er k < 65536) : Met l yX0_priceOf wsX0_priceOf ({ frames := 3, cells := 0, slots := 0, locals := 68 }) (va_Pc [.ref h, .int (iI ((e1 : Nat) : Int)), .int (iI ((ag : Nat) : Int)), .int (iI ((di : Nat) : Int))] (RO D cI cB cZ cO [(h, .inr (0, [.ref a1, .ref a2, .ref a3, .int (iI ((tt : Nat) : Int)), .ref a4, .int (iI ((ln : Nat) : Int)), .ref a5, .int (iI ((ed : Nat) : Int)), .int (iI ((es : Nat) : Int)), .int (iI ((ac : Nat) : Int)), .int (iI ((cu : Nat) : Int))])), (a2, .inl (cI, 160, .inl (rN (ow)))), (a3, .inl (cI, 160, .inl (rN (er))))])) (QO ((prc ow er tt ac cu ag di e1 : Nat) : Int)) 0 0 (fun _ => False) := by
  refine startO (cc := cX0_priceOf) (maxL := 6) (ret := (some .int)) (by decide) rfl (Nat.le_of_ble_eq_true rfl) ?_
  intro p e s m below meth c S hr hlocks hE hP ls hl
  have hx := S.1
  have hb := S.2.1
  have hown := S.2.2.2.1
  have hts := S.2.2.2.2
  have hK := hE.1
  have hl : lv_has ls 6 [(0, .ref h), (1, .int (iI ((e1 : Nat) : Int))), (2, .int (iI ((ag : Nat) : Int))), (3, .int (iI ((di : Nat) : Int)))] := hl
  have hpl : plc ow er tt ac e1 ≤ 160 := Nat.le_trans (cnt_le _ _) (Nat.le_trans (fsF_le _ _) htt)
  refine lv_aload_n hx hb dX0_priceOf_0 rfl (lv_at hl 0 rfl) ?_
  refine va_get (D := D) (ci := 0) (v := .int (iI ((ac : Nat) : Int))) (C := RX0) (T := TX0) (N := 11) hx hb hts nX0_priceOf_X0 hown hK hP 0 rfl rfl 9 (by decide) (hts _ kX0_priceOf_56) (fun _ h9 => h9) rfl dX0_priceOf_1 ?_
  refine lv_iload_n hx hb dX0_priceOf_4 rfl (lv_at hl 1 rfl) ?_
  refine r_iconst hx hb dX0_priceOf_5 ?_
  refine r_iadd (v := ((e1 + 1 : Nat) : Int)) hx hb (rfl) dX0_priceOf_6 ?_
  refine r_ishr hx hb (ac) (e1 + 1) (rfl) (rfl) (by first | omega | (have h1 := Nat.shiftRight_le ac (e1 + 1); omega) | rfl) (by first | omega | (have h1 := Nat.shiftRight_le ac (e1 + 1); omega) | rfl) dX0_priceOf_7 ?_
  refine callFO (n := 1) (As := [.int (iI ((ac >>> (e1 + 1) : Nat) : Int))]) (rest := []) (wc := []) S (c_bitCount l D cI cB cZ cO (ac >>> (e1 + 1)) (by first | assumption | (first | omega | (have h1 := Nat.shiftRight_le ac (e1 + 1); omega) | rfl))) gX0_priceOf_J6_bitCount_0f7a4 rfl ⟨rfl, rfl⟩ (by decide +kernel) ⟨Nat.le_of_ble_eq_true rfl, Nat.le_of_ble_eq_true rfl⟩ hE hP [] rfl rfl hl.1 rfl (Nat.le_of_ble_eq_true rfl) dX0_priceOf_8 ⟨Nat.le_of_ble_eq_true rfl, Nat.le_of_ble_eq_true rfl⟩ ?_
  refine lv_istore (lv' := [(4, .int (iI ((popc (ac >>> (e1 + 1)) : Nat) : Int))), (0, .ref h), (1, .int (iI ((e1 : Nat) : Int))), (2, .int (iI ((ag : Nat) : Int))), (3, .int (iI ((di : Nat) : Int)))]) hx hb dX0_priceOf_11 hl (by decide) rfl (fun ls hl => ?_)
  refine lv_aload_n hx hb dX0_priceOf_13 rfl (lv_at hl 1 rfl) ?_
  refine lv_iload_n hx hb dX0_priceOf_14 rfl (lv_at hl 2 rfl) ?_
  refine callVO (n := 1) (As := [.int (iI ((e1 : Nat) : Int))]) (rest := []) (wc := [(h, .inr (0, [.ref a1, .ref a2, .ref a3, .int (iI ((tt : Nat) : Int)), .ref a4, .int (iI ((ln : Nat) : Int)), .ref a5, .int (iI ((ed : Nat) : Int)), .int (iI ((es : Nat) : Int)), .int (iI ((ac : Nat) : Int)), .int (iI ((cu : Nat) : Int))])), (a2, .inl (cI, 160, .inl (rN (ow)))), (a3, .inl (cI, 160, .inl (rN (er))))]) S (c_placeOf l D cI cB cZ cO h a1 a2 a3 a4 a5 tt ln ed es ac cu ow er e1 (by first | assumption | (first | omega | (have h1 := Nat.shiftRight_le ac (e1 + 1); omega) | rfl)) (by first | assumption | (first | omega | (have h1 := Nat.shiftRight_le ac (e1 + 1); omega) | rfl)) (by first | assumption | (first | omega | (have h1 := Nat.shiftRight_le ac (e1 + 1); omega) | rfl)) (by first | assumption | (first | omega | (have h1 := Nat.shiftRight_le ac (e1 + 1); omega) | rfl)) (by first | assumption | (first | omega | (have h1 := Nat.shiftRight_le ac (e1 + 1); omega) | rfl))) gX0_priceOf_X0_placeOf rfl ⟨rfl, rfl⟩ (by decide +kernel) ⟨Nat.le_of_ble_eq_true rfl, Nat.le_of_ble_eq_true rfl⟩ hE hP [0, 1, 2] rfl 0 0 rfl rfl rfl hl.1 rfl (Nat.le_of_ble_eq_true rfl) dX0_priceOf_15 ⟨Nat.le_of_ble_eq_true rfl, Nat.le_of_ble_eq_true rfl⟩ ?_
  refine lv_aload_n hx hb dX0_priceOf_18 rfl (lv_at hl 1 rfl) ?_
  refine va_get (D := D) (ci := 0) (v := .int (iI ((cu : Nat) : Int))) (C := RX0) (T := TX0) (N := 11) hx hb hts nX0_priceOf_X0 hown hK hP 0 rfl rfl 10 (by decide) (hts _ kX0_priceOf_59) (fun _ h9 => h9) rfl dX0_priceOf_19 ?_
  refine r_isub (v := (((plc ow er tt ac e1 : Nat) : Int) - ((cu : Nat) : Int))) hx hb (rfl) dX0_priceOf_22 ?_
  refine r_mabs (v := ((((((plc ow er tt ac e1 : Nat) : Int) - ((cu : Nat) : Int))).natAbs : Nat) : Int)) hx hb (S.2.2.1.trans hl.1.symm) hown (hts _ mlX0_priceOf_135) (hts _ msX0_priceOf_abs) (hts _ miX0_priceOf) (hts _ mcX0_priceOf_abs) (Nat.le_of_ble_eq_true rfl) (Nat.le_of_ble_eq_true rfl) (Nat.le_of_ble_eq_true rfl) (Nat.le_of_ble_eq_true rfl) (by first | omega | (have h1 := Nat.shiftRight_le ac (e1 + 1); omega) | rfl) rfl dX0_priceOf_23 ?_
  refine lv_istore (lv' := [(5, .int (iI ((((((plc ow er tt ac e1 : Nat) : Int) - ((cu : Nat) : Int))).natAbs : Nat) : Int))), (4, .int (iI ((popc (ac >>> (e1 + 1)) : Nat) : Int))), (0, .ref h), (1, .int (iI ((e1 : Nat) : Int))), (2, .int (iI ((ag : Nat) : Int))), (3, .int (iI ((di : Nat) : Int)))]) hx hb dX0_priceOf_26 hl (by decide) rfl (fun ls hl => ?_)
  refine r_iconst hx hb dX0_priceOf_28 ?_
  refine lv_iload_n hx hb dX0_priceOf_29 rfl (lv_at hl 4 rfl) ?_
  refine lv_iload hx hb dX0_priceOf_30 (lv_at hl 1 rfl) ?_
  refine r_imul (v := ((ag * (popc (ac >>> (e1 + 1))) : Nat) : Int)) hx hb (rfl) dX0_priceOf_32 ?_
  refine r_iadd (v := ((1 + (ag * (popc (ac >>> (e1 + 1)))) : Nat) : Int)) hx hb (rfl) dX0_priceOf_33 ?_
  refine lv_iload_n hx hb dX0_priceOf_34 rfl (lv_at hl 5 rfl) ?_
  refine lv_iload hx hb dX0_priceOf_35 (lv_at hl 0 rfl) ?_
  refine r_iconst hx hb dX0_priceOf_37 ?_
  refine r_idiv hx hb (((((plc ow er tt ac e1 : Nat) : Int) - ((cu : Nat) : Int))).natAbs) (4) (rfl) (rfl) (by first | omega | (have h1 := Nat.shiftRight_le ac (e1 + 1); omega) | rfl) (by first | omega | (have h1 := Nat.shiftRight_le ac (e1 + 1); omega) | rfl) (by first | omega | (have h1 := Nat.shiftRight_le ac (e1 + 1); omega) | rfl) dX0_priceOf_38 ?_
  refine r_imul (v := ((di * ((((((plc ow er tt ac e1 : Nat) : Int) - ((cu : Nat) : Int))).natAbs) / 4) : Nat) : Int)) hx hb (rfl) dX0_priceOf_39 ?_
  refine r_iadd (v := (((1 + (ag * (popc (ac >>> (e1 + 1))))) + (di * ((((((plc ow er tt ac e1 : Nat) : Int) - ((cu : Nat) : Int))).natAbs) / 4)) : Nat) : Int)) hx hb (rfl) dX0_priceOf_40 ?_
  exact r_iretO hx hb hr hlocks (by first | omega | (have h1 := Nat.shiftRight_le ac (e1 + 1); omega) | rfl) dX0_priceOf_41

theorem kX0_priceOfSet_50 : Cond.fieldLink RX0 50 "PricedUndo$Buffer" "edits" "I" ∈ wsX0_priceOfSet := by decide +kernel
theorem nX0_priceOfSet_X0 : ∀ w ∈ u_ws RX0 TX0 11, w ∈ wsX0_priceOfSet := by decide +kernel
theorem iX0_priceOfSet_X4 : Cond.initialized RX4 ∈ wsX0_priceOfSet := by decide +kernel
theorem sX0_priceOfSet_X4_has : Cond.static yX4_has ∈ wsX0_priceOfSet := by decide +kernel
set_option maxHeartbeats 4000000 in
set_option maxRecDepth 100000 in
theorem c_priceOfSet (l : Launch) (D : va_G) (cI cB cZ cO : ClassId) (h : Nat) (a1 : Nat) (a2 : Nat) (a3 : Nat) (a4 : Nat) (a5 : Nat) (tt : Nat) (ln : Nat) (ed : Nat) (es : Nat) (ac : Nat) (cu : Nat) (ow : Nat → Nat) (er : Nat → Nat) (st1 : Nat) (ag : Nat) (di : Nat) (htt : tt ≤ 160) (hed : ed ≤ 16) (hac : ac < 65536) (hcu : cu ≤ 60) (hst : st1 < 65536) (how : ∀ k, ow k < 65536) (her : ∀ k, er k < 65536) : Met l yX0_priceOfSet wsX0_priceOfSet ({ frames := 4, cells := 0, slots := 0, locals := 93 }) (va_Pc [.ref h, .int (iI ((st1 : Nat) : Int)), .int (iI ((ag : Nat) : Int)), .int (iI ((di : Nat) : Int))] (RO D cI cB cZ cO [(h, .inr (0, [.ref a1, .ref a2, .ref a3, .int (iI ((tt : Nat) : Int)), .ref a4, .int (iI ((ln : Nat) : Int)), .ref a5, .int (iI ((ed : Nat) : Int)), .int (iI ((es : Nat) : Int)), .int (iI ((ac : Nat) : Int)), .int (iI ((cu : Nat) : Int))])), (a2, .inl (cI, 160, .inl (rN (ow)))), (a3, .inl (cI, 160, .inl (rN (er))))])) (QO ((psm (prc ow er tt ac cu ag di) st1 ed : Nat) : Int)) 0 0 (fun _ => False) := by
  refine startO (cc := cX0_priceOfSet) (maxL := 6) (ret := (some .int)) (by decide) rfl (Nat.le_of_ble_eq_true rfl) ?_
  intro p e s m below meth c S hr hlocks hE hP ls hl
  have hx := S.1
  have hb := S.2.1
  have hown := S.2.2.2.1
  have hts := S.2.2.2.2
  have hK := hE.1
  have hl : lv_has ls 6 [(0, .ref h), (1, .int (iI ((st1 : Nat) : Int))), (2, .int (iI ((ag : Nat) : Int))), (3, .int (iI ((di : Nat) : Int)))] := hl
  refine r_iconst hx hb dX0_priceOfSet_0 ?_
  refine lv_istore (lv' := [(4, .int (iI 0)), (0, .ref h), (1, .int (iI ((st1 : Nat) : Int))), (2, .int (iI ((ag : Nat) : Int))), (3, .int (iI ((di : Nat) : Int)))]) hx hb dX0_priceOfSet_1 hl (by decide) rfl (fun ls hl => ?_)
  refine r_iconst hx hb dX0_priceOfSet_3 ?_
  refine lv_istore (lv' := [(5, .int (iI 0)), (4, .int (iI 0)), (0, .ref h), (1, .int (iI ((st1 : Nat) : Int))), (2, .int (iI ((ag : Nat) : Int))), (3, .int (iI ((di : Nat) : Int)))]) hx hb dX0_priceOfSet_4 hl (by decide) rfl (fun ls hl => ?_)
  have loop_6 : ∀ (n_6 : Nat) (k : Nat), (ed - k) < n_6 → (k ≤ ed) → ∀ (ls : Array Slot), lv_has ls 6 [(0, .ref h), (1, .int (iI ((st1 : Nat) : Int))), (2, .int (iI ((ag : Nat) : Int))), (3, .int (iI ((di : Nat) : Int))), (4, .int (iI ((psm (prc ow er tt ac cu ag di) st1 k : Nat) : Int))), (5, .int (iI ((k : Nat) : Int)))] → W p l e ({ frames := 4, cells := 0, slots := 0, locals := 93 }) s m ([.ref h, .int (iI ((st1 : Nat) : Int)), .int (iI ((ag : Nat) : Int)), .int (iI ((di : Nat) : Int))] : List Value).toArray below meth c s.heap [] 0 0 (MQ below (QO ((psm (prc ow er tt ac cu ag di) st1 ed : Nat) : Int)) ([.ref h, .int (iI ((st1 : Nat) : Int)), .int (iI ((ag : Nat) : Int)), .int (iI ((di : Nat) : Int))] : List Value).toArray s 0 0 (fun _ => False)) (F0 m 6 ls []) := by
    intro n_6
    induction n_6 with
    | zero => intro k h_meas; exact absurd h_meas (Nat.not_lt_zero _)
    | succ n_6 ih_6 =>
      intro k h_m6 ik ls hl
      refine lv_iload hx hb dX0_priceOfSet_6 (lv_at hl 5 rfl) ?_
      refine lv_aload_n hx hb dX0_priceOfSet_8 rfl (lv_at hl 0 rfl) ?_
      refine va_get (D := D) (ci := 0) (v := .int (iI ((ed : Nat) : Int))) (C := RX0) (T := TX0) (N := 11) hx hb hts nX0_priceOfSet_X0 hown hK hP 0 rfl rfl 7 (by decide) (hts _ kX0_priceOfSet_50) (fun _ h9 => h9) rfl dX0_priceOfSet_9 ?_
      refine r_icmp_ge (tgt := 43) hx hb (by first | omega | (rw [show k = ed by omega])) (by first | omega | (rw [show k = ed by omega])) dX0_priceOfSet_12 (by decide) (fun c_1 => ?_) (fun c_1 => ?_)
      · skip
        refine lv_iload hx hb dX0_priceOfSet_43 (lv_at hl 4 rfl) ?_
        exact r_iretO hx hb hr hlocks (by first | omega | (rw [show k = ed by omega])) dX0_priceOfSet_45
      · skip
        refine lv_iload_n hx hb dX0_priceOfSet_15 rfl (lv_at hl 1 rfl) ?_
        refine lv_iload hx hb dX0_priceOfSet_16 (lv_at hl 5 rfl) ?_
        refine callNO (n := 2) (As := [.int (iI ((st1 : Nat) : Int)), .int (iI ((k : Nat) : Int))]) (rest := []) (wc := []) S (c_has l D cI cB cZ cO st1 k (by first | assumption | (first | omega | (rw [show k = ed by omega]))) (by first | assumption | (first | omega | (rw [show k = ed by omega])))) gX0_priceOfSet_X4_has_n115 rfl ⟨rfl, rfl⟩ (hE.2.m 5 rfl) (hts _ iX0_priceOfSet_X4) (hts _ sX0_priceOfSet_X4_has) (by decide +kernel) ⟨Nat.le_of_ble_eq_true rfl, Nat.le_of_ble_eq_true rfl⟩ hE hP [] rfl rfl hl.1 rfl (Nat.le_of_ble_eq_true rfl) dX0_priceOfSet_18 ⟨Nat.le_of_ble_eq_true rfl, Nat.le_of_ble_eq_true rfl⟩ ?_
        refine r_ifb_eq (tgt := 37) hx hb dX0_priceOfSet_21 (by decide) (fun c_2 => ?_) (fun c_2 => ?_)
        · skip
          refine lv_iinc (v := iI ((k + 1 : Nat) : Int)) (lv' := [(5, .int (iI ((k + 1 : Nat) : Int))), (0, .ref h), (1, .int (iI ((st1 : Nat) : Int))), (2, .int (iI ((ag : Nat) : Int))), (3, .int (iI ((di : Nat) : Int))), (4, .int (iI ((psm (prc ow er tt ac cu ag di) st1 k : Nat) : Int)))]) hx hb dX0_priceOfSet_37 hl (k := 5) rfl ((iI_add _ _).trans (ii (rfl))) (by decide) rfl (fun ls hl => ?_)
          refine lv_goto (tgt := 6) hx hb dX0_priceOfSet_40 (by decide) ?_
          have hl : lv_has ls 6 [(5, .int (iI ((k + 1 : Nat) : Int))), (0, .ref h), (1, .int (iI ((st1 : Nat) : Int))), (2, .int (iI ((ag : Nat) : Int))), (3, .int (iI ((di : Nat) : Int))), (4, .int (iI ((psm (prc ow er tt ac cu ag di) st1 (k + 1) : Nat) : Int)))] := lv_chg hl 5 4 rfl (show (((psm (prc ow er tt ac cu ag di) st1 k : Nat) : Int) : Int) = ((psm (prc ow er tt ac cu ag di) st1 (k + 1) : Nat) : Int) from by first | (rw [psm_t (by assumption)]) | (rw [psm_f (by assumption)])) rfl
          exact ih_6 (k + 1) (by first | omega | (rw [show k = ed by omega])) (by first | assumption | (first | omega | (rw [show k = ed by omega]))) ls (lv_sub hl [1, 2, 3, 4, 5, 0] rfl)
        · skip
          refine lv_iload hx hb dX0_priceOfSet_24 (lv_at hl 4 rfl) ?_
          refine lv_aload_n hx hb dX0_priceOfSet_26 rfl (lv_at hl 0 rfl) ?_
          refine lv_iload hx hb dX0_priceOfSet_27 (lv_at hl 5 rfl) ?_
          refine lv_iload_n hx hb dX0_priceOfSet_29 rfl (lv_at hl 2 rfl) ?_
          refine lv_iload_n hx hb dX0_priceOfSet_30 rfl (lv_at hl 3 rfl) ?_
          refine callVO (n := 3) (As := [.int (iI ((k : Nat) : Int)), .int (iI ((ag : Nat) : Int)), .int (iI ((di : Nat) : Int))]) (rest := [.int (iI ((psm (prc ow er tt ac cu ag di) st1 k : Nat) : Int))]) (wc := [(h, .inr (0, [.ref a1, .ref a2, .ref a3, .int (iI ((tt : Nat) : Int)), .ref a4, .int (iI ((ln : Nat) : Int)), .ref a5, .int (iI ((ed : Nat) : Int)), .int (iI ((es : Nat) : Int)), .int (iI ((ac : Nat) : Int)), .int (iI ((cu : Nat) : Int))])), (a2, .inl (cI, 160, .inl (rN (ow)))), (a3, .inl (cI, 160, .inl (rN (er))))]) S (c_priceOf l D cI cB cZ cO h a1 a2 a3 a4 a5 tt ln ed es ac cu ow er k ag di (by first | assumption | (first | omega | (rw [show k = ed by omega]))) (by first | assumption | (first | omega | (rw [show k = ed by omega]))) (by first | assumption | (first | omega | (rw [show k = ed by omega]))) (by first | assumption | (first | omega | (rw [show k = ed by omega]))) (by first | assumption | (first | omega | (rw [show k = ed by omega]))) (by first | assumption | (first | omega | (rw [show k = ed by omega])))) gX0_priceOfSet_X0_priceOf rfl ⟨rfl, rfl⟩ (by decide +kernel) ⟨Nat.le_of_ble_eq_true rfl, Nat.le_of_ble_eq_true rfl⟩ hE hP [0, 1, 2] rfl 0 0 rfl rfl rfl hl.1 rfl (Nat.le_of_ble_eq_true rfl) dX0_priceOfSet_31 ⟨Nat.le_of_ble_eq_true rfl, Nat.le_of_ble_eq_true rfl⟩ ?_
          refine r_iadd (v := (((psm (prc ow er tt ac cu ag di) st1 k) + (prc ow er tt ac cu ag di k) : Nat) : Int)) hx hb (rfl) dX0_priceOfSet_34 ?_
          refine lv_istore (lv' := [(4, .int (iI (((psm (prc ow er tt ac cu ag di) st1 k) + (prc ow er tt ac cu ag di k) : Nat) : Int))), (0, .ref h), (1, .int (iI ((st1 : Nat) : Int))), (2, .int (iI ((ag : Nat) : Int))), (3, .int (iI ((di : Nat) : Int))), (5, .int (iI ((k : Nat) : Int)))]) hx hb dX0_priceOfSet_35 hl (by decide) rfl (fun ls hl => ?_)
          refine lv_iinc (v := iI ((k + 1 : Nat) : Int)) (lv' := [(5, .int (iI ((k + 1 : Nat) : Int))), (4, .int (iI (((psm (prc ow er tt ac cu ag di) st1 k) + (prc ow er tt ac cu ag di k) : Nat) : Int))), (0, .ref h), (1, .int (iI ((st1 : Nat) : Int))), (2, .int (iI ((ag : Nat) : Int))), (3, .int (iI ((di : Nat) : Int)))]) hx hb dX0_priceOfSet_37 hl (k := 5) rfl ((iI_add _ _).trans (ii (rfl))) (by decide) rfl (fun ls hl => ?_)
          refine lv_goto (tgt := 6) hx hb dX0_priceOfSet_40 (by decide) ?_
          have hl : lv_has ls 6 [(5, .int (iI ((k + 1 : Nat) : Int))), (4, .int (iI ((psm (prc ow er tt ac cu ag di) st1 (k + 1) : Nat) : Int))), (0, .ref h), (1, .int (iI ((st1 : Nat) : Int))), (2, .int (iI ((ag : Nat) : Int))), (3, .int (iI ((di : Nat) : Int)))] := lv_chg hl 1 4 rfl (show ((((psm (prc ow er tt ac cu ag di) st1 k) + (prc ow er tt ac cu ag di k) : Nat) : Int) : Int) = ((psm (prc ow er tt ac cu ag di) st1 (k + 1) : Nat) : Int) from by first | (rw [psm_t (by assumption)]) | (rw [psm_f (by assumption)])) rfl
          exact ih_6 (k + 1) (by first | omega | (rw [show k = ed by omega])) (by first | assumption | (first | omega | (rw [show k = ed by omega]))) ls (lv_sub hl [2, 3, 4, 5, 1, 0] rfl)
  have hl : lv_has ls 6 [(5, .int (iI 0)), (4, .int (iI ((psm (prc ow er tt ac cu ag di) st1 0 : Nat) : Int))), (0, .ref h), (1, .int (iI ((st1 : Nat) : Int))), (2, .int (iI ((ag : Nat) : Int))), (3, .int (iI ((di : Nat) : Int)))] := lv_chg hl 1 4 rfl (show (0 : Int) = ((psm (prc ow er tt ac cu ag di) st1 0 : Nat) : Int) from by rfl) rfl
  exact loop_6 ((ed - 0) + 1) 0 (by first | omega | (rw [show k = ed by omega])) (by first | assumption | (first | omega | (rw [show k = ed by omega]))) ls (lv_sub hl [2, 3, 4, 5, 1, 0] rfl)
