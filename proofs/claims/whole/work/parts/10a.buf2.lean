theorem kX0_finishEdit_50 : Cond.fieldLink RX0 50 "PricedUndo$Buffer" "edits" "I" ∈ wsX0_finishEdit := by decide +kernel
theorem nX0_finishEdit_X0 : ∀ w ∈ u_ws RX0 TX0 11, w ∈ wsX0_finishEdit := by decide +kernel
theorem kX0_finishEdit_56 : Cond.fieldLink RX0 56 "PricedUndo$Buffer" "active" "I" ∈ wsX0_finishEdit := by decide +kernel
theorem iX0_finishEdit_X4 : Cond.initialized RX4 ∈ wsX0_finishEdit := by decide +kernel
theorem sX0_finishEdit_X4_single : Cond.static yX4_single ∈ wsX0_finishEdit := by decide +kernel
set_option maxHeartbeats 4000000 in
set_option maxRecDepth 100000 in
theorem c_finishEdit (l : Launch) (D : va_G) (cI cB cZ cO : ClassId) (sz : Nat) (h : Nat) (a1 : Nat) (a2 : Nat) (a3 : Nat) (a4 : Nat) (a5 : Nat) (tt : Nat) (ln : Nat) (ed : Nat) (es : Nat) (ac : Nat) (cu : Nat) (ow : Nat → Nat) (er : Nat → Nat) (ix : Nat → Nat) (htt : tt ≤ 160) (hac : ac < 65536) (hed : ed < 16) (hcap : cnt (visb ow er (ac ||| 2 ^ ed)) tt ≤ 60) (hix : ∀ j, ix j < 160) (hcu : cu ≤ 60) (how : ∀ k, ow k < 65536) (her : ∀ k, er k < 65536) : Met l yX0_finishEdit wsX0_finishEdit ({ frames := 2, cells := 0, slots := 0, locals := 43 }) (va_Pc [.ref h] (RW D cI cB cZ cO sz [(h, .inr (0, [.ref a1, .ref a2, .ref a3, .int (iI ((tt : Nat) : Int)), .ref a4, .int (iI ((ln : Nat) : Int)), .ref a5, .int (iI ((ed : Nat) : Int)), .int (iI ((es : Nat) : Int)), .int (iI ((ac : Nat) : Int)), .int (iI ((cu : Nat) : Int))])), (a2, .inl (cI, 160, .inl (rN (ow)))), (a3, .inl (cI, 160, .inl (rN (er)))), (a4, .inl (cI, 60, .inl (rN (ix))))])) (QX D (S := (Nat → Nat)) (fun u => some (.int (iI ((ed : Nat) : Int)))) (fun u => (∀ j, u j < 160) ∧ (ixOK (visb ow er (ac ||| 2 ^ ed)) tt u)) (fun u => [(h, .inr (0, [.ref a1, .ref a2, .ref a3, .int (iI ((tt : Nat) : Int)), .ref a4, .int (iI ((cnt (visb ow er (ac ||| 2 ^ ed)) tt : Nat) : Int)), .ref a5, .int (iI ((ed + 1 : Nat) : Int)), .int (iI ((es : Nat) : Int)), .int (iI ((ac ||| 2 ^ ed : Nat) : Int)), .int (iI ((min cu (cnt (visb ow er (ac ||| 2 ^ ed)) tt) : Nat) : Int))])), (a2, .inl (cI, 160, .inl (rN (ow)))), (a3, .inl (cI, 160, .inl (rN (er)))), (a4, .inl (cI, 60, .inl (rN (u))))]) (va_A [(h, .inr (0, [.ref a1, .ref a2, .ref a3, .int (iI ((tt : Nat) : Int)), .ref a4, .int (iI ((ln : Nat) : Int)), .ref a5, .int (iI ((ed : Nat) : Int)), .int (iI ((es : Nat) : Int)), .int (iI ((ac : Nat) : Int)), .int (iI ((cu : Nat) : Int))])), (a2, .inl (cI, 160, .inl (rN (ow)))), (a3, .inl (cI, 160, .inl (rN (er)))), (a4, .inl (cI, 60, .inl (rN (ix))))] sz)) 0 0 (va_A [(h, .inr (0, [.ref a1, .ref a2, .ref a3, .int (iI ((tt : Nat) : Int)), .ref a4, .int (iI ((ln : Nat) : Int)), .ref a5, .int (iI ((ed : Nat) : Int)), .int (iI ((es : Nat) : Int)), .int (iI ((ac : Nat) : Int)), .int (iI ((cu : Nat) : Int))])), (a2, .inl (cI, 160, .inl (rN (ow)))), (a3, .inl (cI, 160, .inl (rN (er)))), (a4, .inl (cI, 60, .inl (rN (ix))))] sz) := by
  refine startW (cc := cX0_finishEdit) (maxL := 2) (ret := (some .int)) (by decide) rfl (Nat.le_of_ble_eq_true rfl) ?_
  intro p e s m below meth c S hr hlocks hE hP A hD hA hS ls hl
  have hx := S.1
  have hb := S.2.1
  have hown := S.2.2.2.1
  have hts := S.2.2.2.2
  have hK := hE.1
  have hl : lv_has ls 2 [(0, .ref h)] := hl
  refine lv_aload_n hx hb dX0_finishEdit_0 rfl (lv_at hl 0 rfl) ?_
  refine va_get (D := D) (ci := 0) (v := .int (iI ((ed : Nat) : Int))) (C := RX0) (T := TX0) (N := 11) hx hb hts nX0_finishEdit_X0 hown hK hP 0 rfl rfl 7 (by decide) (hts _ kX0_finishEdit_50) (fun _ h9 => h9) rfl dX0_finishEdit_1 ?_
  refine lv_istore_n (lv' := [(1, .int (iI ((ed : Nat) : Int))), (0, .ref h)]) hx hb dX0_finishEdit_4 rfl hl (by decide) rfl (fun ls hl => ?_)
  refine lv_aload_n hx hb dX0_finishEdit_5 rfl (lv_at hl 1 rfl) ?_
  refine lv_dup hx hb dX0_finishEdit_6 rfl ?_
  refine va_get (D := D) (ci := 0) (v := .int (iI ((ac : Nat) : Int))) (C := RX0) (T := TX0) (N := 11) hx hb hts nX0_finishEdit_X0 hown hK hP 0 rfl rfl 9 (by decide) (hts _ kX0_finishEdit_56) (fun _ h9 => h9) rfl dX0_finishEdit_7 ?_
  refine lv_iload_n hx hb dX0_finishEdit_10 rfl (lv_at hl 0 rfl) ?_
  refine callNO (n := 1) (As := [.int (iI ((ed : Nat) : Int))]) (rest := [.int (iI ((ac : Nat) : Int)), .ref h]) (wc := []) S (c_single l D cI cB cZ cO ed (by first | assumption | (first | omega | exact or16 (by omega) (pow16 (by omega))))) gX0_finishEdit_X4_single_n79 rfl ⟨rfl, rfl⟩ (hE.2.m 4 rfl) (hts _ iX0_finishEdit_X4) (hts _ sX0_finishEdit_X4_single) (by decide +kernel) ⟨Nat.le_of_ble_eq_true rfl, Nat.le_of_ble_eq_true rfl⟩ hE hP [] rfl rfl hl.1 rfl (Nat.le_of_ble_eq_true rfl) dX0_finishEdit_11 ⟨Nat.le_of_ble_eq_true rfl, Nat.le_of_ble_eq_true rfl⟩ ?_
  refine r_ior hx hb (ac) (2 ^ ed) (rfl) (rfl) dX0_finishEdit_14 ?_
  refine va_put (D := D) (ci := 0) (v := .int (iI ((ac ||| (2 ^ ed) : Nat) : Int))) (ty := .int) (C := RX0) (T := TX0) (N := 11) hx hb hts nX0_finishEdit_X0 tyX0 tyX0_ok nmX0 hown hK hP hD hS 0 rfl rfl 9 (by decide) (hts _ kX0_finishEdit_56) (fun _ h9 => h9) rfl (by decide +kernel) rfl rfl (Nat.le_of_ble_eq_true rfl) dX0_finishEdit_15 (fun H locs hP hD hS => ?_)
  have hP : va_P D vwCl [(h, .inr (0, [.ref a1, .ref a2, .ref a3, .int (iI ((tt : Nat) : Int)), .ref a4, .int (iI ((ln : Nat) : Int)), .ref a5, .int (iI ((ed : Nat) : Int)), .int (iI ((es : Nat) : Int)), .int (iI ((ac ||| (2 ^ ed) : Nat) : Int)), .int (iI ((cu : Nat) : Int))])), (a2, .inl (cI, 160, .inl (rN (ow)))), (a3, .inl (cI, 160, .inl (rN (er)))), (a4, .inl (cI, 60, .inl (rN (ix))))] H := hP
  have hD : va_D A [(h, .inr (0, [.ref a1, .ref a2, .ref a3, .int (iI ((tt : Nat) : Int)), .ref a4, .int (iI ((ln : Nat) : Int)), .ref a5, .int (iI ((ed : Nat) : Int)), .int (iI ((es : Nat) : Int)), .int (iI ((ac ||| (2 ^ ed) : Nat) : Int)), .int (iI ((cu : Nat) : Int))])), (a2, .inl (cI, 160, .inl (rN (ow)))), (a3, .inl (cI, 160, .inl (rN (er)))), (a4, .inl (cI, 60, .inl (rN (ix))))] := hD
  refine lv_aload_n hx hb dX0_finishEdit_18 rfl (lv_at hl 1 rfl) ?_
  refine lv_dup hx hb dX0_finishEdit_19 rfl ?_
  refine va_get (D := D) (ci := 0) (v := .int (iI ((ed : Nat) : Int))) (C := RX0) (T := TX0) (N := 11) hx hb hts nX0_finishEdit_X0 hown hK hP 0 rfl rfl 7 (by decide) (hts _ kX0_finishEdit_50) (fun _ h9 => h9) rfl dX0_finishEdit_20 ?_
  refine r_iconst hx hb dX0_finishEdit_23 ?_
  refine r_iadd (v := ((ed + 1 : Nat) : Int)) hx hb (rfl) dX0_finishEdit_24 ?_
  refine va_put (D := D) (ci := 0) (v := .int (iI ((ed + 1 : Nat) : Int))) (ty := .int) (C := RX0) (T := TX0) (N := 11) hx hb hts nX0_finishEdit_X0 tyX0 tyX0_ok nmX0 hown hK hP hD hS 0 rfl rfl 7 (by decide) (hts _ kX0_finishEdit_50) (fun _ h9 => h9) rfl (by decide +kernel) rfl rfl (Nat.le_of_ble_eq_true rfl) dX0_finishEdit_25 (fun H locs hP hD hS => ?_)
  have hP : va_P D vwCl [(h, .inr (0, [.ref a1, .ref a2, .ref a3, .int (iI ((tt : Nat) : Int)), .ref a4, .int (iI ((ln : Nat) : Int)), .ref a5, .int (iI ((ed + 1 : Nat) : Int)), .int (iI ((es : Nat) : Int)), .int (iI ((ac ||| (2 ^ ed) : Nat) : Int)), .int (iI ((cu : Nat) : Int))])), (a2, .inl (cI, 160, .inl (rN (ow)))), (a3, .inl (cI, 160, .inl (rN (er)))), (a4, .inl (cI, 60, .inl (rN (ix))))] H := hP
  have hD : va_D A [(h, .inr (0, [.ref a1, .ref a2, .ref a3, .int (iI ((tt : Nat) : Int)), .ref a4, .int (iI ((ln : Nat) : Int)), .ref a5, .int (iI ((ed + 1 : Nat) : Int)), .int (iI ((es : Nat) : Int)), .int (iI ((ac ||| (2 ^ ed) : Nat) : Int)), .int (iI ((cu : Nat) : Int))])), (a2, .inl (cI, 160, .inl (rN (ow)))), (a3, .inl (cI, 160, .inl (rN (er)))), (a4, .inl (cI, 60, .inl (rN (ix))))] := hD
  refine lv_aload_n hx hb dX0_finishEdit_28 rfl (lv_at hl 1 rfl) ?_
  refine callVX (n := 0) (As := []) (rest := []) (wc := [(h, .inr (0, [.ref a1, .ref a2, .ref a3, .int (iI ((tt : Nat) : Int)), .ref a4, .int (iI ((ln : Nat) : Int)), .ref a5, .int (iI ((ed + 1 : Nat) : Int)), .int (iI ((es : Nat) : Int)), .int (iI ((ac ||| (2 ^ ed) : Nat) : Int)), .int (iI ((cu : Nat) : Int))])), (a2, .inl (cI, 160, .inl (rN (ow)))), (a3, .inl (cI, 160, .inl (rN (er)))), (a4, .inl (cI, 60, .inl (rN (ix))))]) (wr := []) (ws2 := fun u => [(h, .inr (0, [.ref a1, .ref a2, .ref a3, .int (iI ((tt : Nat) : Int)), .ref a4, .int (iI ((cnt (visb ow er (ac ||| (2 ^ ed))) tt : Nat) : Int)), .ref a5, .int (iI ((ed + 1 : Nat) : Int)), .int (iI ((es : Nat) : Int)), .int (iI ((ac ||| (2 ^ ed) : Nat) : Int)), .int (iI ((min cu (cnt (visb ow er (ac ||| (2 ^ ed))) tt) : Nat) : Int))])), (a2, .inl (cI, 160, .inl (rN (ow)))), (a3, .inl (cI, 160, .inl (rN (er)))), (a4, .inl (cI, 60, .inl (rN (u))))]) S hE hP hD hS hA (c_refresh l D cI cB cZ cO H.size h a1 a2 a3 a4 a5 tt ln (ed + 1) es (ac ||| (2 ^ ed)) cu ow er ix (by first | assumption | (first | omega | exact or16 (by omega) (pow16 (by omega)))) (by first | assumption | (first | omega | exact or16 (by omega) (pow16 (by omega)))) (by first | assumption | (first | omega | exact or16 (by omega) (pow16 (by omega)))) (by first | assumption | (first | omega | exact or16 (by omega) (pow16 (by omega)))) (by first | assumption | (first | omega | exact or16 (by omega) (pow16 (by omega)))) (by first | assumption | (first | omega | exact or16 (by omega) (pow16 (by omega)))) (by first | assumption | (first | omega | exact or16 (by omega) (pow16 (by omega))))) gX0_finishEdit_X0_refresh rfl ⟨rfl, rfl⟩ (by decide +kernel) ⟨Nat.le_of_ble_eq_true rfl, Nat.le_of_ble_eq_true rfl⟩ [0, 1, 2, 3] [] [0, 1, 2, 3] rfl (by decide) rfl (by decide) (by decide) (by decide) (fun u => rfl) 0 0 rfl rfl rfl hl.1 rfl (Nat.le_of_ble_eq_true rfl) dX0_finishEdit_29 ⟨Nat.le_of_ble_eq_true rfl, Nat.le_of_ble_eq_true rfl⟩ (fun u u_1p H locs hP hD hS => ?_)
  generalize u = ix2_u_1 at u_1p hP hD ⊢
  obtain ⟨hix2_u_1, hok_u_1⟩ := u_1p
  have hix2_u_1 : ∀ j, ix2_u_1 j < 160 := hix2_u_1
  have hok_u_1 : ixOK (visb ow er (ac ||| (2 ^ ed))) tt ix2_u_1 := hok_u_1
  have hP : va_P D vwCl [(h, .inr (0, [.ref a1, .ref a2, .ref a3, .int (iI ((tt : Nat) : Int)), .ref a4, .int (iI ((cnt (visb ow er (ac ||| (2 ^ ed))) tt : Nat) : Int)), .ref a5, .int (iI ((ed + 1 : Nat) : Int)), .int (iI ((es : Nat) : Int)), .int (iI ((ac ||| (2 ^ ed) : Nat) : Int)), .int (iI ((min cu (cnt (visb ow er (ac ||| (2 ^ ed))) tt) : Nat) : Int))])), (a2, .inl (cI, 160, .inl (rN (ow)))), (a3, .inl (cI, 160, .inl (rN (er)))), (a4, .inl (cI, 60, .inl (rN (ix2_u_1))))] H := hP
  have hD : va_D A [(h, .inr (0, [.ref a1, .ref a2, .ref a3, .int (iI ((tt : Nat) : Int)), .ref a4, .int (iI ((cnt (visb ow er (ac ||| (2 ^ ed))) tt : Nat) : Int)), .ref a5, .int (iI ((ed + 1 : Nat) : Int)), .int (iI ((es : Nat) : Int)), .int (iI ((ac ||| (2 ^ ed) : Nat) : Int)), .int (iI ((min cu (cnt (visb ow er (ac ||| (2 ^ ed))) tt) : Nat) : Int))])), (a2, .inl (cI, 160, .inl (rN (ow)))), (a3, .inl (cI, 160, .inl (rN (er)))), (a4, .inl (cI, 60, .inl (rN (ix2_u_1))))] := hD
  refine W.eq (g2 := F0 m 32 ls []) rfl ?_
  refine lv_iload_n hx hb dX0_finishEdit_32 rfl (lv_at hl 0 rfl) ?_
  exact r_iretX hx hb hr hlocks hP hD hS (ix2_u_1) (rfl) (⟨by assumption, by assumption⟩) (by first | with_reducible rfl | simp) dX0_finishEdit_33

theorem kX0_switchTo_39 : Cond.fieldLink RX0 39 "PricedUndo$Buffer" "total" "I" ∈ wsX0_switchTo := by decide +kernel
theorem nX0_switchTo_X0 : ∀ w ∈ u_ws RX0 TX0 11, w ∈ wsX0_switchTo := by decide +kernel
theorem kX0_switchTo_56 : Cond.fieldLink RX0 56 "PricedUndo$Buffer" "active" "I" ∈ wsX0_switchTo := by decide +kernel
theorem kX0_switchTo_71 : Cond.fieldLink RX0 71 "PricedUndo$Buffer" "length" "I" ∈ wsX0_switchTo := by decide +kernel
set_option maxHeartbeats 4000000 in
set_option maxRecDepth 100000 in
theorem c_switchTo (l : Launch) (D : va_G) (cI cB cZ cO : ClassId) (sz : Nat) (h : Nat) (a1 : Nat) (a2 : Nat) (a3 : Nat) (a4 : Nat) (a5 : Nat) (tt : Nat) (ln : Nat) (ed : Nat) (es : Nat) (ac : Nat) (cu : Nat) (ow : Nat → Nat) (er : Nat → Nat) (ix : Nat → Nat) (act : Nat) (htt : tt ≤ 160) (hact : act < 65536) (hcap : cnt (visb ow er act) tt ≤ 60) (hix : ∀ j, ix j < 160) (hcu : cu ≤ 60) (how : ∀ k, ow k < 65536) (her : ∀ k, er k < 65536) : Met l yX0_switchTo wsX0_switchTo ({ frames := 2, cells := 0, slots := 0, locals := 46 }) (va_Pc [.ref h, .int (iI ((act : Nat) : Int))] (RW D cI cB cZ cO sz [(h, .inr (0, [.ref a1, .ref a2, .ref a3, .int (iI ((tt : Nat) : Int)), .ref a4, .int (iI ((ln : Nat) : Int)), .ref a5, .int (iI ((ed : Nat) : Int)), .int (iI ((es : Nat) : Int)), .int (iI ((ac : Nat) : Int)), .int (iI ((cu : Nat) : Int))])), (a2, .inl (cI, 160, .inl (rN (ow)))), (a3, .inl (cI, 160, .inl (rN (er)))), (a4, .inl (cI, 60, .inl (rN (ix))))])) (QX D (S := (Nat → Nat)) (fun u => some (.int (iI ((cnt (visb ow er act) tt : Nat) : Int)))) (fun u => (∀ j, u j < 160) ∧ (ixOK (visb ow er act) tt u)) (fun u => [(h, .inr (0, [.ref a1, .ref a2, .ref a3, .int (iI ((tt : Nat) : Int)), .ref a4, .int (iI ((cnt (visb ow er act) tt : Nat) : Int)), .ref a5, .int (iI ((ed : Nat) : Int)), .int (iI ((es : Nat) : Int)), .int (iI ((act : Nat) : Int)), .int (iI ((min cu (cnt (visb ow er act) tt) : Nat) : Int))])), (a2, .inl (cI, 160, .inl (rN (ow)))), (a3, .inl (cI, 160, .inl (rN (er)))), (a4, .inl (cI, 60, .inl (rN (u))))]) (va_A [(h, .inr (0, [.ref a1, .ref a2, .ref a3, .int (iI ((tt : Nat) : Int)), .ref a4, .int (iI ((ln : Nat) : Int)), .ref a5, .int (iI ((ed : Nat) : Int)), .int (iI ((es : Nat) : Int)), .int (iI ((ac : Nat) : Int)), .int (iI ((cu : Nat) : Int))])), (a2, .inl (cI, 160, .inl (rN (ow)))), (a3, .inl (cI, 160, .inl (rN (er)))), (a4, .inl (cI, 60, .inl (rN (ix))))] sz)) 0 0 (va_A [(h, .inr (0, [.ref a1, .ref a2, .ref a3, .int (iI ((tt : Nat) : Int)), .ref a4, .int (iI ((ln : Nat) : Int)), .ref a5, .int (iI ((ed : Nat) : Int)), .int (iI ((es : Nat) : Int)), .int (iI ((ac : Nat) : Int)), .int (iI ((cu : Nat) : Int))])), (a2, .inl (cI, 160, .inl (rN (ow)))), (a3, .inl (cI, 160, .inl (rN (er)))), (a4, .inl (cI, 60, .inl (rN (ix))))] sz) := by
  refine startW (cc := cX0_switchTo) (maxL := 2) (ret := (some .int)) (by decide) rfl (Nat.le_of_ble_eq_true rfl) ?_
  intro p e s m below meth c S hr hlocks hE hP A hD hA hS ls hl
  have hx := S.1
  have hb := S.2.1
  have hown := S.2.2.2.1
  have hts := S.2.2.2.2
  have hK := hE.1
  have hl : lv_has ls 2 [(0, .ref h), (1, .int (iI ((act : Nat) : Int)))] := hl
  refine lv_aload_n hx hb dX0_switchTo_0 rfl (lv_at hl 0 rfl) ?_
  refine lv_aload_n hx hb dX0_switchTo_1 rfl (lv_at hl 0 rfl) ?_
  refine va_get (D := D) (ci := 0) (v := .int (iI ((tt : Nat) : Int))) (C := RX0) (T := TX0) (N := 11) hx hb hts nX0_switchTo_X0 hown hK hP 0 rfl rfl 3 (by decide) (hts _ kX0_switchTo_39) (fun _ h9 => h9) rfl dX0_switchTo_2 ?_
  refine lv_iload_n hx hb dX0_switchTo_5 rfl (lv_at hl 1 rfl) ?_
  refine callVO (n := 2) (As := [.int (iI ((tt : Nat) : Int)), .int (iI ((act : Nat) : Int))]) (rest := []) (wc := [(h, .inr (0, [.ref a1, .ref a2, .ref a3, .int (iI ((tt : Nat) : Int)), .ref a4, .int (iI ((ln : Nat) : Int)), .ref a5, .int (iI ((ed : Nat) : Int)), .int (iI ((es : Nat) : Int)), .int (iI ((ac : Nat) : Int)), .int (iI ((cu : Nat) : Int))])), (a2, .inl (cI, 160, .inl (rN (ow)))), (a3, .inl (cI, 160, .inl (rN (er))))]) S (c_visibleAhead l D cI cB cZ cO h a1 a2 a3 a4 a5 tt ln ed es ac cu ow er tt act (by first | assumption | (omega)) (by first | assumption | (omega)) (by first | assumption | (omega)) (by first | assumption | (omega)) (by first | assumption | (omega))) gX0_switchTo_X0_visibleAhead rfl ⟨rfl, rfl⟩ (by decide +kernel) ⟨Nat.le_of_ble_eq_true rfl, Nat.le_of_ble_eq_true rfl⟩ hE hP [0, 1, 2] rfl 0 0 rfl rfl rfl hl.1 rfl (Nat.le_of_ble_eq_true rfl) dX0_switchTo_6 ⟨Nat.le_of_ble_eq_true rfl, Nat.le_of_ble_eq_true rfl⟩ ?_
  rw [Nat.min_self]
  refine r_bipush hx hb dX0_switchTo_9 (by decide) ?_
  refine r_icmp_le (tgt := 17) hx hb (by omega) (⟨by decide, by decide⟩) dX0_switchTo_11 (by decide) (fun c_1 => ?_) (fun c_1 => ?_)
  · skip
    refine lv_aload_n hx hb dX0_switchTo_17 rfl (lv_at hl 0 rfl) ?_
    refine lv_iload_n hx hb dX0_switchTo_18 rfl (lv_at hl 1 rfl) ?_
    refine va_put (D := D) (ci := 0) (v := .int (iI ((act : Nat) : Int))) (ty := .int) (C := RX0) (T := TX0) (N := 11) hx hb hts nX0_switchTo_X0 tyX0 tyX0_ok nmX0 hown hK hP hD hS 0 rfl rfl 9 (by decide) (hts _ kX0_switchTo_56) (fun _ h9 => h9) rfl (by decide +kernel) rfl rfl (Nat.le_of_ble_eq_true rfl) dX0_switchTo_19 (fun H locs hP hD hS => ?_)
    have hP : va_P D vwCl [(h, .inr (0, [.ref a1, .ref a2, .ref a3, .int (iI ((tt : Nat) : Int)), .ref a4, .int (iI ((ln : Nat) : Int)), .ref a5, .int (iI ((ed : Nat) : Int)), .int (iI ((es : Nat) : Int)), .int (iI ((act : Nat) : Int)), .int (iI ((cu : Nat) : Int))])), (a2, .inl (cI, 160, .inl (rN (ow)))), (a3, .inl (cI, 160, .inl (rN (er)))), (a4, .inl (cI, 60, .inl (rN (ix))))] H := hP
    have hD : va_D A [(h, .inr (0, [.ref a1, .ref a2, .ref a3, .int (iI ((tt : Nat) : Int)), .ref a4, .int (iI ((ln : Nat) : Int)), .ref a5, .int (iI ((ed : Nat) : Int)), .int (iI ((es : Nat) : Int)), .int (iI ((act : Nat) : Int)), .int (iI ((cu : Nat) : Int))])), (a2, .inl (cI, 160, .inl (rN (ow)))), (a3, .inl (cI, 160, .inl (rN (er)))), (a4, .inl (cI, 60, .inl (rN (ix))))] := hD
    refine lv_aload_n hx hb dX0_switchTo_22 rfl (lv_at hl 0 rfl) ?_
    refine callVX (n := 0) (As := []) (rest := []) (wc := [(h, .inr (0, [.ref a1, .ref a2, .ref a3, .int (iI ((tt : Nat) : Int)), .ref a4, .int (iI ((ln : Nat) : Int)), .ref a5, .int (iI ((ed : Nat) : Int)), .int (iI ((es : Nat) : Int)), .int (iI ((act : Nat) : Int)), .int (iI ((cu : Nat) : Int))])), (a2, .inl (cI, 160, .inl (rN (ow)))), (a3, .inl (cI, 160, .inl (rN (er)))), (a4, .inl (cI, 60, .inl (rN (ix))))]) (wr := []) (ws2 := fun u => [(h, .inr (0, [.ref a1, .ref a2, .ref a3, .int (iI ((tt : Nat) : Int)), .ref a4, .int (iI ((cnt (visb ow er act) tt : Nat) : Int)), .ref a5, .int (iI ((ed : Nat) : Int)), .int (iI ((es : Nat) : Int)), .int (iI ((act : Nat) : Int)), .int (iI ((min cu (cnt (visb ow er act) tt) : Nat) : Int))])), (a2, .inl (cI, 160, .inl (rN (ow)))), (a3, .inl (cI, 160, .inl (rN (er)))), (a4, .inl (cI, 60, .inl (rN (u))))]) S hE hP hD hS hA (c_refresh l D cI cB cZ cO H.size h a1 a2 a3 a4 a5 tt ln ed es act cu ow er ix (by first | assumption | (omega)) (by first | assumption | (omega)) (by first | assumption | (omega)) (by first | assumption | (omega)) (by first | assumption | (omega)) (by first | assumption | (omega)) (by first | assumption | (omega))) gX0_switchTo_X0_refresh rfl ⟨rfl, rfl⟩ (by decide +kernel) ⟨Nat.le_of_ble_eq_true rfl, Nat.le_of_ble_eq_true rfl⟩ [0, 1, 2, 3] [] [0, 1, 2, 3] rfl (by decide) rfl (by decide) (by decide) (by decide) (fun u => rfl) 0 0 rfl rfl rfl hl.1 rfl (Nat.le_of_ble_eq_true rfl) dX0_switchTo_23 ⟨Nat.le_of_ble_eq_true rfl, Nat.le_of_ble_eq_true rfl⟩ (fun u u_2p H locs hP hD hS => ?_)
    generalize u = ix2_u_2 at u_2p hP hD ⊢
    obtain ⟨hix2_u_2, hok_u_2⟩ := u_2p
    have hix2_u_2 : ∀ j, ix2_u_2 j < 160 := hix2_u_2
    have hok_u_2 : ixOK (visb ow er act) tt ix2_u_2 := hok_u_2
    have hP : va_P D vwCl [(h, .inr (0, [.ref a1, .ref a2, .ref a3, .int (iI ((tt : Nat) : Int)), .ref a4, .int (iI ((cnt (visb ow er act) tt : Nat) : Int)), .ref a5, .int (iI ((ed : Nat) : Int)), .int (iI ((es : Nat) : Int)), .int (iI ((act : Nat) : Int)), .int (iI ((min cu (cnt (visb ow er act) tt) : Nat) : Int))])), (a2, .inl (cI, 160, .inl (rN (ow)))), (a3, .inl (cI, 160, .inl (rN (er)))), (a4, .inl (cI, 60, .inl (rN (ix2_u_2))))] H := hP
    have hD : va_D A [(h, .inr (0, [.ref a1, .ref a2, .ref a3, .int (iI ((tt : Nat) : Int)), .ref a4, .int (iI ((cnt (visb ow er act) tt : Nat) : Int)), .ref a5, .int (iI ((ed : Nat) : Int)), .int (iI ((es : Nat) : Int)), .int (iI ((act : Nat) : Int)), .int (iI ((min cu (cnt (visb ow er act) tt) : Nat) : Int))])), (a2, .inl (cI, 160, .inl (rN (ow)))), (a3, .inl (cI, 160, .inl (rN (er)))), (a4, .inl (cI, 60, .inl (rN (ix2_u_2))))] := hD
    refine W.eq (g2 := F0 m 26 ls []) rfl ?_
    refine lv_aload_n hx hb dX0_switchTo_26 rfl (lv_at hl 0 rfl) ?_
    refine va_get (D := D) (ci := 0) (v := .int (iI ((cnt (visb ow er act) tt : Nat) : Int))) (C := RX0) (T := TX0) (N := 11) hx hb hts nX0_switchTo_X0 hown hK hP 0 rfl rfl 5 (by decide) (hts _ kX0_switchTo_71) (fun _ h9 => h9) rfl dX0_switchTo_27 ?_
    exact r_iretX hx hb hr hlocks hP hD hS (ix2_u_2) (rfl) (⟨by assumption, by assumption⟩) rfl dX0_switchTo_30
  · skip
    exfalso; omega

set_option maxHeartbeats 4000000 in
set_option maxRecDepth 100000 in
theorem c_switchTo_full (l : Launch) (D : va_G) (cI cB cZ cO : ClassId) (h : Nat) (a1 : Nat) (a2 : Nat) (a3 : Nat) (a4 : Nat) (a5 : Nat) (tt : Nat) (ln : Nat) (ed : Nat) (es : Nat) (ac : Nat) (cu : Nat) (ow : Nat → Nat) (er : Nat → Nat) (act : Nat) (htt : tt ≤ 160) (hact : act < 65536) (hcap : 60 < cnt (visb ow er act) tt) (how : ∀ k, ow k < 65536) (her : ∀ k, er k < 65536) : Met l yX0_switchTo wsX0_switchTo ({ frames := 2, cells := 0, slots := 0, locals := 46 }) (va_Pc [.ref h, .int (iI ((act : Nat) : Int))] (RO D cI cB cZ cO [(h, .inr (0, [.ref a1, .ref a2, .ref a3, .int (iI ((tt : Nat) : Int)), .ref a4, .int (iI ((ln : Nat) : Int)), .ref a5, .int (iI ((ed : Nat) : Int)), .int (iI ((es : Nat) : Int)), .int (iI ((ac : Nat) : Int)), .int (iI ((cu : Nat) : Int))])), (a2, .inl (cI, 160, .inl (rN (ow)))), (a3, .inl (cI, 160, .inl (rN (er))))])) (QO (-3)) 0 0 (fun _ => False) := by
  refine startO (cc := cX0_switchTo) (maxL := 2) (ret := (some .int)) (by decide) rfl (Nat.le_of_ble_eq_true rfl) ?_
  intro p e s m below meth c S hr hlocks hE hP ls hl
  have hx := S.1
  have hb := S.2.1
  have hown := S.2.2.2.1
  have hts := S.2.2.2.2
  have hK := hE.1
  have hl : lv_has ls 2 [(0, .ref h), (1, .int (iI ((act : Nat) : Int)))] := hl
  have hcl := cnt_le (visb ow er act) tt
  refine lv_aload_n hx hb dX0_switchTo_0 rfl (lv_at hl 0 rfl) ?_
  refine lv_aload_n hx hb dX0_switchTo_1 rfl (lv_at hl 0 rfl) ?_
  refine va_get (D := D) (ci := 0) (v := .int (iI ((tt : Nat) : Int))) (C := RX0) (T := TX0) (N := 11) hx hb hts nX0_switchTo_X0 hown hK hP 0 rfl rfl 3 (by decide) (hts _ kX0_switchTo_39) (fun _ h9 => h9) rfl dX0_switchTo_2 ?_
  refine lv_iload_n hx hb dX0_switchTo_5 rfl (lv_at hl 1 rfl) ?_
  refine callVO (n := 2) (As := [.int (iI ((tt : Nat) : Int)), .int (iI ((act : Nat) : Int))]) (rest := []) (wc := [(h, .inr (0, [.ref a1, .ref a2, .ref a3, .int (iI ((tt : Nat) : Int)), .ref a4, .int (iI ((ln : Nat) : Int)), .ref a5, .int (iI ((ed : Nat) : Int)), .int (iI ((es : Nat) : Int)), .int (iI ((ac : Nat) : Int)), .int (iI ((cu : Nat) : Int))])), (a2, .inl (cI, 160, .inl (rN (ow)))), (a3, .inl (cI, 160, .inl (rN (er))))]) S (c_visibleAhead l D cI cB cZ cO h a1 a2 a3 a4 a5 tt ln ed es ac cu ow er tt act (by first | assumption | (omega)) (by first | assumption | (omega)) (by first | assumption | (omega)) (by first | assumption | (omega)) (by first | assumption | (omega))) gX0_switchTo_X0_visibleAhead rfl ⟨rfl, rfl⟩ (by decide +kernel) ⟨Nat.le_of_ble_eq_true rfl, Nat.le_of_ble_eq_true rfl⟩ hE hP [0, 1, 2] rfl 0 0 rfl rfl rfl hl.1 rfl (Nat.le_of_ble_eq_true rfl) dX0_switchTo_6 ⟨Nat.le_of_ble_eq_true rfl, Nat.le_of_ble_eq_true rfl⟩ ?_
  rw [Nat.min_self]
  refine r_bipush hx hb dX0_switchTo_9 (by decide) ?_
  refine r_icmp_le (tgt := 17) hx hb (by omega) (⟨by decide, by decide⟩) dX0_switchTo_11 (by decide) (fun c_1 => ?_) (fun c_1 => ?_)
  · skip
    exfalso; omega
  · skip
    refine r_bipush hx hb dX0_switchTo_14 (by decide) ?_
    exact r_iretO hx hb hr hlocks (rfl) dX0_switchTo_16

theorem kX0_placeAfter_21 : Cond.fieldLink RX0 21 "PricedUndo$Buffer" "indexes" "[I" ∈ wsX0_placeAfter := by decide +kernel
theorem nX0_placeAfter_X0 : ∀ w ∈ u_ws RX0 TX0 11, w ∈ wsX0_placeAfter := by decide +kernel
set_option maxHeartbeats 4000000 in
set_option maxRecDepth 100000 in
theorem c_placeAfter (l : Launch) (D : va_G) (cI cB cZ cO : ClassId) (h : Nat) (a1 : Nat) (a2 : Nat) (a3 : Nat) (a4 : Nat) (a5 : Nat) (tt : Nat) (ln : Nat) (ed : Nat) (es : Nat) (ac : Nat) (cu : Nat) (ow : Nat → Nat) (er : Nat → Nat) (ix : Nat → Nat) (q1 : Nat) (act : Nat) (hq : q1 < ln) (hln : ln ≤ 60) (htt : tt ≤ 160) (hact : act < 65536) (hix : ∀ j, ix j < 160) (hixt : ix q1 < tt) (how : ∀ k, ow k < 65536) (her : ∀ k, er k < 65536) : Met l yX0_placeAfter wsX0_placeAfter ({ frames := 2, cells := 0, slots := 0, locals := 46 }) (va_Pc [.ref h, .int (iI ((q1 : Nat) : Int)), .int (iI ((act : Nat) : Int))] (RO D cI cB cZ cO [(h, .inr (0, [.ref a1, .ref a2, .ref a3, .int (iI ((tt : Nat) : Int)), .ref a4, .int (iI ((ln : Nat) : Int)), .ref a5, .int (iI ((ed : Nat) : Int)), .int (iI ((es : Nat) : Int)), .int (iI ((ac : Nat) : Int)), .int (iI ((cu : Nat) : Int))])), (a2, .inl (cI, 160, .inl (rN (ow)))), (a3, .inl (cI, 160, .inl (rN (er)))), (a4, .inl (cI, 60, .inl (rN (ix))))])) (QO (pla ow er ix act q1)) 0 0 (fun _ => False) := by
  refine startO (cc := cX0_placeAfter) (maxL := 4) (ret := (some .int)) (by decide) rfl (Nat.le_of_ble_eq_true rfl) ?_
  intro p e s m below meth c S hr hlocks hE hP ls hl
  have hx := S.1
  have hb := S.2.1
  have hown := S.2.2.2.1
  have hts := S.2.2.2.2
  have hK := hE.1
  have hl : lv_has ls 4 [(0, .ref h), (1, .int (iI ((q1 : Nat) : Int))), (2, .int (iI ((act : Nat) : Int)))] := hl
  refine lv_aload_n hx hb dX0_placeAfter_0 rfl (lv_at hl 0 rfl) ?_
  refine lv_iload_n hx hb dX0_placeAfter_1 rfl (lv_at hl 1 rfl) ?_
  refine callVO (n := 1) (As := [.int (iI ((q1 : Nat) : Int))]) (rest := []) (wc := [(h, .inr (0, [.ref a1, .ref a2, .ref a3, .int (iI ((tt : Nat) : Int)), .ref a4, .int (iI ((ln : Nat) : Int)), .ref a5, .int (iI ((ed : Nat) : Int)), .int (iI ((es : Nat) : Int)), .int (iI ((ac : Nat) : Int)), .int (iI ((cu : Nat) : Int))]))]) S (c_hasPlace l D cI cB cZ cO h a1 a2 a3 a4 a5 tt ln ed es ac cu (((q1 : Nat) : Int)) (by first | assumption | (first | omega | (have h9 := hix q1; omega) | (unfold pla; rw [if_pos (by assumption), show min (ix q1) tt = ix q1 by omega]) | (unfold pla; rw [if_neg (by assumption)]))) (by first | assumption | (first | omega | (have h9 := hix q1; omega) | (unfold pla; rw [if_pos (by assumption), show min (ix q1) tt = ix q1 by omega]) | (unfold pla; rw [if_neg (by assumption)])))) gX0_placeAfter_X0_hasPlace rfl ⟨rfl, rfl⟩ (by decide +kernel) ⟨Nat.le_of_ble_eq_true rfl, Nat.le_of_ble_eq_true rfl⟩ hE hP [0] rfl 0 0 rfl rfl rfl hl.1 rfl (Nat.le_of_ble_eq_true rfl) dX0_placeAfter_2 ⟨Nat.le_of_ble_eq_true rfl, Nat.le_of_ble_eq_true rfl⟩ ?_
  refine r_ifb_ne (tgt := 11) hx hb dX0_placeAfter_5 (by decide) (fun c_1 => ?_) (fun c_1 => ?_)
  · skip
    refine lv_aload_n hx hb dX0_placeAfter_11 rfl (lv_at hl 0 rfl) ?_
    refine va_get (D := D) (ci := 0) (v := .ref a4) (C := RX0) (T := TX0) (N := 11) hx hb hts nX0_placeAfter_X0 hown hK hP 0 rfl rfl 4 (by decide) (hts _ kX0_placeAfter_21) (fun _ h9 => h9) rfl dX0_placeAfter_12 ?_
    refine lv_iload_n hx hb dX0_placeAfter_15 rfl (lv_at hl 1 rfl) ?_
    refine r_ialdN hx hb hK hP 3 0 rfl rfl (q1) (rfl) (by first | omega | (have h9 := hix q1; omega) | (unfold pla; rw [if_pos (by assumption), show min (ix q1) tt = ix q1 by omega]) | (unfold pla; rw [if_neg (by assumption)])) (by decide) dX0_placeAfter_16 ?_
    refine lv_istore_n (lv' := [(3, .int (iI ((ix q1 : Nat) : Int))), (0, .ref h), (1, .int (iI ((q1 : Nat) : Int))), (2, .int (iI ((act : Nat) : Int)))]) hx hb dX0_placeAfter_17 rfl hl (by decide) rfl (fun ls hl => ?_)
    refine lv_aload_n hx hb dX0_placeAfter_18 rfl (lv_at hl 1 rfl) ?_
    refine lv_iload_n hx hb dX0_placeAfter_19 rfl (lv_at hl 0 rfl) ?_
    refine lv_iload_n hx hb dX0_placeAfter_20 rfl (lv_at hl 3 rfl) ?_
    refine callVO (n := 2) (As := [.int (iI ((ix q1 : Nat) : Int)), .int (iI ((act : Nat) : Int))]) (rest := []) (wc := [(h, .inr (0, [.ref a1, .ref a2, .ref a3, .int (iI ((tt : Nat) : Int)), .ref a4, .int (iI ((ln : Nat) : Int)), .ref a5, .int (iI ((ed : Nat) : Int)), .int (iI ((es : Nat) : Int)), .int (iI ((ac : Nat) : Int)), .int (iI ((cu : Nat) : Int))])), (a2, .inl (cI, 160, .inl (rN (ow)))), (a3, .inl (cI, 160, .inl (rN (er))))]) S (c_isVisible l D cI cB cZ cO h a1 a2 a3 a4 a5 tt ln ed es ac cu ow er (ix q1) act (by first | assumption | (first | omega | (have h9 := hix q1; omega) | (unfold pla; rw [if_pos (by assumption), show min (ix q1) tt = ix q1 by omega]) | (unfold pla; rw [if_neg (by assumption)]))) (by first | assumption | (first | omega | (have h9 := hix q1; omega) | (unfold pla; rw [if_pos (by assumption), show min (ix q1) tt = ix q1 by omega]) | (unfold pla; rw [if_neg (by assumption)]))) (by first | assumption | (first | omega | (have h9 := hix q1; omega) | (unfold pla; rw [if_pos (by assumption), show min (ix q1) tt = ix q1 by omega]) | (unfold pla; rw [if_neg (by assumption)]))) (by first | assumption | (first | omega | (have h9 := hix q1; omega) | (unfold pla; rw [if_pos (by assumption), show min (ix q1) tt = ix q1 by omega]) | (unfold pla; rw [if_neg (by assumption)])))) gX0_placeAfter_X0_isVisible rfl ⟨rfl, rfl⟩ (by decide +kernel) ⟨Nat.le_of_ble_eq_true rfl, Nat.le_of_ble_eq_true rfl⟩ hE hP [0, 1, 2] rfl 0 0 rfl rfl rfl hl.1 rfl (Nat.le_of_ble_eq_true rfl) dX0_placeAfter_21 ⟨Nat.le_of_ble_eq_true rfl, Nat.le_of_ble_eq_true rfl⟩ ?_
    refine r_ifb_eq (tgt := 36) hx hb dX0_placeAfter_24 (by decide) (fun c_2 => ?_) (fun c_2 => ?_)
    · skip
      refine r_bipush hx hb dX0_placeAfter_36 (by decide) ?_
      exact r_iretO hx hb hr hlocks (by first | omega | (have h9 := hix q1; omega) | (unfold pla; rw [if_pos (by assumption), show min (ix q1) tt = ix q1 by omega]) | (unfold pla; rw [if_neg (by assumption)])) dX0_placeAfter_38
    · skip
      refine lv_aload_n hx hb dX0_placeAfter_27 rfl (lv_at hl 1 rfl) ?_
      refine lv_iload_n hx hb dX0_placeAfter_28 rfl (lv_at hl 0 rfl) ?_
      refine lv_iload_n hx hb dX0_placeAfter_29 rfl (lv_at hl 3 rfl) ?_
      refine callVO (n := 2) (As := [.int (iI ((ix q1 : Nat) : Int)), .int (iI ((act : Nat) : Int))]) (rest := []) (wc := [(h, .inr (0, [.ref a1, .ref a2, .ref a3, .int (iI ((tt : Nat) : Int)), .ref a4, .int (iI ((ln : Nat) : Int)), .ref a5, .int (iI ((ed : Nat) : Int)), .int (iI ((es : Nat) : Int)), .int (iI ((ac : Nat) : Int)), .int (iI ((cu : Nat) : Int))])), (a2, .inl (cI, 160, .inl (rN (ow)))), (a3, .inl (cI, 160, .inl (rN (er))))]) S (c_visibleAhead l D cI cB cZ cO h a1 a2 a3 a4 a5 tt ln ed es ac cu ow er (ix q1) act (by first | assumption | (first | omega | (have h9 := hix q1; omega) | (unfold pla; rw [if_pos (by assumption), show min (ix q1) tt = ix q1 by omega]) | (unfold pla; rw [if_neg (by assumption)]))) (by first | assumption | (first | omega | (have h9 := hix q1; omega) | (unfold pla; rw [if_pos (by assumption), show min (ix q1) tt = ix q1 by omega]) | (unfold pla; rw [if_neg (by assumption)]))) (by first | assumption | (first | omega | (have h9 := hix q1; omega) | (unfold pla; rw [if_pos (by assumption), show min (ix q1) tt = ix q1 by omega]) | (unfold pla; rw [if_neg (by assumption)]))) (by first | assumption | (first | omega | (have h9 := hix q1; omega) | (unfold pla; rw [if_pos (by assumption), show min (ix q1) tt = ix q1 by omega]) | (unfold pla; rw [if_neg (by assumption)]))) (by first | assumption | (first | omega | (have h9 := hix q1; omega) | (unfold pla; rw [if_pos (by assumption), show min (ix q1) tt = ix q1 by omega]) | (unfold pla; rw [if_neg (by assumption)])))) gX0_placeAfter_X0_visibleAhead rfl ⟨rfl, rfl⟩ (by decide +kernel) ⟨Nat.le_of_ble_eq_true rfl, Nat.le_of_ble_eq_true rfl⟩ hE hP [0, 1, 2] rfl 0 0 rfl rfl rfl hl.1 rfl (Nat.le_of_ble_eq_true rfl) dX0_placeAfter_30 ⟨Nat.le_of_ble_eq_true rfl, Nat.le_of_ble_eq_true rfl⟩ ?_
      refine lv_goto (tgt := 38) hx hb dX0_placeAfter_33 (by decide) ?_
      exact r_iretO hx hb hr hlocks (by first | omega | (have h9 := hix q1; omega) | (unfold pla; rw [if_pos (by assumption), show min (ix q1) tt = ix q1 by omega]) | (unfold pla; rw [if_neg (by assumption)])) dX0_placeAfter_38
  · skip
    exfalso; omega

theorem kX0_stretchFrom_71 : Cond.fieldLink RX0 71 "PricedUndo$Buffer" "length" "I" ∈ wsX0_stretchFrom := by decide +kernel
theorem nX0_stretchFrom_X0 : ∀ w ∈ u_ws RX0 TX0 11, w ∈ wsX0_stretchFrom := by decide +kernel
set_option maxHeartbeats 4000000 in
set_option maxRecDepth 100000 in
theorem c_stretchFrom (l : Launch) (D : va_G) (cI cB cZ cO : ClassId) (h : Nat) (a1 : Nat) (a2 : Nat) (a3 : Nat) (a4 : Nat) (a5 : Nat) (tt : Nat) (ln : Nat) (ed : Nat) (es : Nat) (ac : Nat) (cu : Nat) (ow : Nat → Nat) (ix : Nat → Nat) (q1 : Nat) (w1 : Nat) (hq1 : q1 ≤ ln) (hln : ln ≤ 60) (hix : ∀ j, ix j < 160) (hw1 : w1 < 65536) (how : ∀ k, ow k < 65536) : Met l yX0_stretchFrom wsX0_stretchFrom ({ frames := 2, cells := 0, slots := 0, locals := 42 }) (va_Pc [.ref h, .int (iI ((q1 : Nat) : Int)), .int (iI ((w1 : Nat) : Int))] (RO D cI cB cZ cO [(h, .inr (0, [.ref a1, .ref a2, .ref a3, .int (iI ((tt : Nat) : Int)), .ref a4, .int (iI ((ln : Nat) : Int)), .ref a5, .int (iI ((ed : Nat) : Int)), .int (iI ((es : Nat) : Int)), .int (iI ((ac : Nat) : Int)), .int (iI ((cu : Nat) : Int))])), (a2, .inl (cI, 160, .inl (rN (ow)))), (a4, .inl (cI, 60, .inl (rN (ix))))])) (QO ((stp (isO ow ix w1) q1 ln : Nat) : Int)) 0 0 (fun _ => False) := by
  refine startO (cc := cX0_stretchFrom) (maxL := 4) (ret := (some .int)) (by decide) rfl (Nat.le_of_ble_eq_true rfl) ?_
  intro p e s m below meth c S hr hlocks hE hP ls hl
  have hx := S.1
  have hb := S.2.1
  have hown := S.2.2.2.1
  have hts := S.2.2.2.2
  have hK := hE.1
  have hl : lv_has ls 4 [(0, .ref h), (1, .int (iI ((q1 : Nat) : Int))), (2, .int (iI ((w1 : Nat) : Int)))] := hl
  refine lv_iload_n hx hb dX0_stretchFrom_0 rfl (lv_at hl 1 rfl) ?_
  refine lv_istore_n (lv' := [(3, .int (iI ((q1 : Nat) : Int))), (0, .ref h), (1, .int (iI ((q1 : Nat) : Int))), (2, .int (iI ((w1 : Nat) : Int)))]) hx hb dX0_stretchFrom_1 rfl hl (by decide) rfl (fun ls hl => ?_)
  have loop_2 : ∀ (n_2 : Nat) (d : Nat), (ln - (q1 + d)) < n_2 → (q1 + d ≤ ln) → (∀ j, j < d → isO ow ix w1 (q1 + j) = true) → ∀ (ls : Array Slot), lv_has ls 4 [(0, .ref h), (1, .int (iI ((q1 : Nat) : Int))), (2, .int (iI ((w1 : Nat) : Int))), (3, .int (iI ((q1 + d : Nat) : Int)))] → W p l e ({ frames := 2, cells := 0, slots := 0, locals := 42 }) s m ([.ref h, .int (iI ((q1 : Nat) : Int)), .int (iI ((w1 : Nat) : Int))] : List Value).toArray below meth c s.heap [] 0 0 (MQ below (QO ((stp (isO ow ix w1) q1 ln : Nat) : Int)) ([.ref h, .int (iI ((q1 : Nat) : Int)), .int (iI ((w1 : Nat) : Int))] : List Value).toArray s 0 0 (fun _ => False)) (F0 m 2 ls []) := by
    intro n_2
    induction n_2 with
    | zero => intro d h_meas; exact absurd h_meas (Nat.not_lt_zero _)
    | succ n_2 ih_2 =>
      intro d h_m2 id ip ls hl
      refine lv_iload_n hx hb dX0_stretchFrom_2 rfl (lv_at hl 3 rfl) ?_
      refine lv_aload_n hx hb dX0_stretchFrom_3 rfl (lv_at hl 0 rfl) ?_
      refine va_get (D := D) (ci := 0) (v := .int (iI ((ln : Nat) : Int))) (C := RX0) (T := TX0) (N := 11) hx hb hts nX0_stretchFrom_X0 hown hK hP 0 rfl rfl 5 (by decide) (hts _ kX0_stretchFrom_71) (fun _ h9 => h9) rfl dX0_stretchFrom_4 ?_
      refine r_icmp_ge (tgt := 25) hx hb (by first | omega | (have h9 := how (ix (q1 + d)); omega) | (rw [stp_eq ip (by omega) (fun h9 h8 => by have h7 := of_decide_eq_true h8; omega)])) (by first | omega | (have h9 := how (ix (q1 + d)); omega) | (rw [stp_eq ip (by omega) (fun h9 h8 => by have h7 := of_decide_eq_true h8; omega)])) dX0_stretchFrom_7 (by decide) (fun c_1 => ?_) (fun c_1 => ?_)
      · skip
        refine lv_iload_n hx hb dX0_stretchFrom_25 rfl (lv_at hl 3 rfl) ?_
        refine lv_iload_n hx hb dX0_stretchFrom_26 rfl (lv_at hl 1 rfl) ?_
        refine r_isub (v := ((d : Nat) : Int)) hx hb (by first | omega | (have h9 := how (ix (q1 + d)); omega) | (rw [stp_eq ip (by omega) (fun h9 h8 => by have h7 := of_decide_eq_true h8; omega)])) dX0_stretchFrom_27 ?_
        exact r_iretO hx hb hr hlocks (by first | omega | (have h9 := how (ix (q1 + d)); omega) | (rw [stp_eq ip (by omega) (fun h9 h8 => by have h7 := of_decide_eq_true h8; omega)])) dX0_stretchFrom_28
      · skip
        refine lv_aload_n hx hb dX0_stretchFrom_10 rfl (lv_at hl 0 rfl) ?_
        refine lv_iload_n hx hb dX0_stretchFrom_11 rfl (lv_at hl 3 rfl) ?_
        refine callVO (n := 1) (As := [.int (iI ((q1 + d : Nat) : Int))]) (rest := []) (wc := [(h, .inr (0, [.ref a1, .ref a2, .ref a3, .int (iI ((tt : Nat) : Int)), .ref a4, .int (iI ((ln : Nat) : Int)), .ref a5, .int (iI ((ed : Nat) : Int)), .int (iI ((es : Nat) : Int)), .int (iI ((ac : Nat) : Int)), .int (iI ((cu : Nat) : Int))])), (a2, .inl (cI, 160, .inl (rN (ow)))), (a4, .inl (cI, 60, .inl (rN (ix))))]) S (c_ownerAt l D cI cB cZ cO h a1 a2 a3 a4 a5 tt ln ed es ac cu ow ix (q1 + d) (by first | assumption | (first | omega | (have h9 := how (ix (q1 + d)); omega) | (rw [stp_eq ip (by omega) (fun h9 h8 => by have h7 := of_decide_eq_true h8; omega)]))) (by first | assumption | (first | omega | (have h9 := how (ix (q1 + d)); omega) | (rw [stp_eq ip (by omega) (fun h9 h8 => by have h7 := of_decide_eq_true h8; omega)]))) (by first | assumption | (first | omega | (have h9 := how (ix (q1 + d)); omega) | (rw [stp_eq ip (by omega) (fun h9 h8 => by have h7 := of_decide_eq_true h8; omega)])))) gX0_stretchFrom_X0_ownerAt rfl ⟨rfl, rfl⟩ (by decide +kernel) ⟨Nat.le_of_ble_eq_true rfl, Nat.le_of_ble_eq_true rfl⟩ hE hP [0, 1, 2] rfl 0 0 rfl rfl rfl hl.1 rfl (Nat.le_of_ble_eq_true rfl) dX0_stretchFrom_12 ⟨Nat.le_of_ble_eq_true rfl, Nat.le_of_ble_eq_true rfl⟩ ?_
        refine lv_iload_n hx hb dX0_stretchFrom_15 rfl (lv_at hl 2 rfl) ?_
        refine r_icmp_ne (tgt := 25) hx hb (by first | omega | (have h9 := how (ix (q1 + d)); omega) | (rw [stp_eq ip (by omega) (fun h9 h8 => by have h7 := of_decide_eq_true h8; omega)])) (by first | omega | (have h9 := how (ix (q1 + d)); omega) | (rw [stp_eq ip (by omega) (fun h9 h8 => by have h7 := of_decide_eq_true h8; omega)])) dX0_stretchFrom_16 (by decide) (fun c_2 => ?_) (fun c_2 => ?_)
        · skip
          refine lv_iload_n hx hb dX0_stretchFrom_25 rfl (lv_at hl 3 rfl) ?_
          refine lv_iload_n hx hb dX0_stretchFrom_26 rfl (lv_at hl 1 rfl) ?_
          refine r_isub (v := ((d : Nat) : Int)) hx hb (by first | omega | (have h9 := how (ix (q1 + d)); omega) | (rw [stp_eq ip (by omega) (fun h9 h8 => by have h7 := of_decide_eq_true h8; omega)])) dX0_stretchFrom_27 ?_
          exact r_iretO hx hb hr hlocks (by first | omega | (have h9 := how (ix (q1 + d)); omega) | (rw [stp_eq ip (by omega) (fun h9 h8 => by have h7 := of_decide_eq_true h8; omega)])) dX0_stretchFrom_28
        · skip
          refine lv_iinc (v := iI (((q1 + d) + 1 : Nat) : Int)) (lv' := [(3, .int (iI (((q1 + d) + 1 : Nat) : Int))), (0, .ref h), (1, .int (iI ((q1 : Nat) : Int))), (2, .int (iI ((w1 : Nat) : Int)))]) hx hb dX0_stretchFrom_19 hl (k := 3) rfl ((iI_add _ _).trans (ii (rfl))) (by decide) rfl (fun ls hl => ?_)
          refine lv_goto (tgt := 2) hx hb dX0_stretchFrom_22 (by decide) ?_
          have hl : lv_has ls 4 [(3, .int (iI ((q1 + (d + 1) : Nat) : Int))), (0, .ref h), (1, .int (iI ((q1 : Nat) : Int))), (2, .int (iI ((w1 : Nat) : Int)))] := lv_chg hl 0 3 rfl (show ((((q1 + d) + 1 : Nat) : Int) : Int) = ((q1 + (d + 1) : Nat) : Int) from by first | omega | (have h9 := how (ix (q1 + d)); omega) | (rw [stp_eq ip (by omega) (fun h9 h8 => by have h7 := of_decide_eq_true h8; omega)])) rfl
          exact ih_2 (d + 1) (by first | omega | (have h9 := how (ix (q1 + d)); omega) | (rw [stp_eq ip (by omega) (fun h9 h8 => by have h7 := of_decide_eq_true h8; omega)])) (by first | assumption | (first | omega | (have h9 := how (ix (q1 + d)); omega) | (rw [stp_eq ip (by omega) (fun h9 h8 => by have h7 := of_decide_eq_true h8; omega)]))) (by intro j hj; rcases Nat.lt_or_eq_of_le (Nat.le_of_lt_succ hj) with q | q; exact ip j q; rw [q]; exact decide_eq_true (by omega)) ls (lv_sub hl [1, 2, 3, 0] rfl)
  have hl : lv_has ls 4 [(3, .int (iI ((q1 + 0 : Nat) : Int))), (0, .ref h), (1, .int (iI ((q1 : Nat) : Int))), (2, .int (iI ((w1 : Nat) : Int)))] := lv_chg hl 0 3 rfl (show (((q1 : Nat) : Int) : Int) = ((q1 + 0 : Nat) : Int) from by first | omega | (have h9 := how (ix (q1 + d)); omega) | (rw [stp_eq ip (by omega) (fun h9 h8 => by have h7 := of_decide_eq_true h8; omega)])) rfl
  exact loop_2 ((ln - (q1 + 0)) + 1) 0 (by first | omega | (have h9 := how (ix (q1 + d)); omega) | (rw [stp_eq ip (by omega) (fun h9 h8 => by have h7 := of_decide_eq_true h8; omega)])) (by first | assumption | (first | omega | (have h9 := how (ix (q1 + d)); omega) | (rw [stp_eq ip (by omega) (fun h9 h8 => by have h7 := of_decide_eq_true h8; omega)]))) (by intro j hj; omega) ls (lv_sub hl [1, 2, 3, 0] rfl)

theorem kX0_longestStretch_71 : Cond.fieldLink RX0 71 "PricedUndo$Buffer" "length" "I" ∈ wsX0_longestStretch := by decide +kernel
theorem nX0_longestStretch_X0 : ∀ w ∈ u_ws RX0 TX0 11, w ∈ wsX0_longestStretch := by decide +kernel
theorem mlX0_longestStretch_145 : Cond.methodLink RX0 145 Lib.Math.max.name ∈ wsX0_longestStretch := by decide +kernel
theorem msX0_longestStretch_max : Cond.static Lib.Math.max.name ∈ wsX0_longestStretch := by decide +kernel
theorem miX0_longestStretch : Cond.initialized "java/lang/Math" ∈ wsX0_longestStretch := by decide +kernel
theorem mcX0_longestStretch_max : Cond.code Lib.Math.max.name Lib.Math.max.code 2 (some .int) ∈ wsX0_longestStretch := by decide +kernel
set_option maxHeartbeats 4000000 in
set_option maxRecDepth 100000 in
theorem c_longestStretch (l : Launch) (D : va_G) (cI cB cZ cO : ClassId) (h : Nat) (a1 : Nat) (a2 : Nat) (a3 : Nat) (a4 : Nat) (a5 : Nat) (tt : Nat) (ln : Nat) (ed : Nat) (es : Nat) (ac : Nat) (cu : Nat) (ow : Nat → Nat) (ix : Nat → Nat) (w1 : Nat) (hln : ln ≤ 60) (hix : ∀ j, ix j < 160) (hw1 : w1 < 65536) (how : ∀ k, ow k < 65536) : Met l yX0_longestStretch wsX0_longestStretch ({ frames := 3, cells := 0, slots := 0, locals := 65 }) (va_Pc [.ref h, .int (iI ((w1 : Nat) : Int))] (RO D cI cB cZ cO [(h, .inr (0, [.ref a1, .ref a2, .ref a3, .int (iI ((tt : Nat) : Int)), .ref a4, .int (iI ((ln : Nat) : Int)), .ref a5, .int (iI ((ed : Nat) : Int)), .int (iI ((es : Nat) : Int)), .int (iI ((ac : Nat) : Int)), .int (iI ((cu : Nat) : Int))])), (a2, .inl (cI, 160, .inl (rN (ow)))), (a4, .inl (cI, 60, .inl (rN (ix))))])) (QO ((bst (isO ow ix w1) ln : Nat) : Int)) 0 0 (fun _ => False) := by
  refine startO (cc := cX0_longestStretch) (maxL := 6) (ret := (some .int)) (by decide) rfl (Nat.le_of_ble_eq_true rfl) ?_
  intro p e s m below meth c S hr hlocks hE hP ls hl
  have hx := S.1
  have hb := S.2.1
  have hown := S.2.2.2.1
  have hts := S.2.2.2.2
  have hK := hE.1
  have hl : lv_has ls 6 [(0, .ref h), (1, .int (iI ((w1 : Nat) : Int)))] := hl
  refine r_iconst hx hb dX0_longestStretch_0 ?_
  refine lv_istore_n (lv' := [(2, .int (iI 0)), (0, .ref h), (1, .int (iI ((w1 : Nat) : Int)))]) hx hb dX0_longestStretch_1 rfl hl (by decide) rfl (fun ls hl => ?_)
  refine r_iconst hx hb dX0_longestStretch_2 ?_
  refine lv_istore_n (lv' := [(3, .int (iI 0)), (2, .int (iI 0)), (0, .ref h), (1, .int (iI ((w1 : Nat) : Int)))]) hx hb dX0_longestStretch_3 rfl hl (by decide) rfl (fun ls hl => ?_)
  refine r_iconst hx hb dX0_longestStretch_4 ?_
  refine lv_istore (lv' := [(4, .int (iI 0)), (3, .int (iI 0)), (2, .int (iI 0)), (0, .ref h), (1, .int (iI ((w1 : Nat) : Int)))]) hx hb dX0_longestStretch_5 hl (by decide) rfl (fun ls hl => ?_)
  have loop_7 : ∀ (n_7 : Nat) (b : Nat) (lg : Nat) (pl : Nat), (ln - pl) < n_7 → (lgS (isO ow ix w1) ln pl b lg) → ∀ (ls : Array Slot), lv_has ls 6 [(0, .ref h), (1, .int (iI ((w1 : Nat) : Int))), (2, .int (iI ((b : Nat) : Int))), (3, .int (iI ((lg : Nat) : Int))), (4, .int (iI ((pl : Nat) : Int)))] → W p l e ({ frames := 3, cells := 0, slots := 0, locals := 65 }) s m ([.ref h, .int (iI ((w1 : Nat) : Int))] : List Value).toArray below meth c s.heap [] 0 0 (MQ below (QO ((bst (isO ow ix w1) ln : Nat) : Int)) ([.ref h, .int (iI ((w1 : Nat) : Int))] : List Value).toArray s 0 0 (fun _ => False)) (F0 m 7 ls []) := by
    intro n_7
    induction n_7 with
    | zero => intro b lg pl h_meas; exact absurd h_meas (Nat.not_lt_zero _)
    | succ n_7 ih_7 =>
      intro b lg pl h_m7 iv ls hl
      have ipl := iv.1
      have isl := stp_le (isO ow ix w1) pl ln
      have ilg : lg ≤ ln := by rcases iv.2.1 with q | q; have := stp_le (isO ow ix w1) b ln; omega; omega
      refine lv_iload hx hb dX0_longestStretch_7 (lv_at hl 4 rfl) ?_
      refine lv_aload_n hx hb dX0_longestStretch_9 rfl (lv_at hl 0 rfl) ?_
      refine va_get (D := D) (ci := 0) (v := .int (iI ((ln : Nat) : Int))) (C := RX0) (T := TX0) (N := 11) hx hb hts nX0_longestStretch_X0 hown hK hP 0 rfl rfl 5 (by decide) (hts _ kX0_longestStretch_71) (fun _ h9 => h9) rfl dX0_longestStretch_10 ?_
      refine r_icmp_ge (tgt := 51) hx hb (by first | omega | (rw [← lgS_e iv (by omega)])) (by first | omega | (rw [← lgS_e iv (by omega)])) dX0_longestStretch_13 (by decide) (fun c_1 => ?_) (fun c_1 => ?_)
      · skip
        refine lv_iload_n hx hb dX0_longestStretch_51 rfl (lv_at hl 2 rfl) ?_
        exact r_iretO hx hb hr hlocks (by first | omega | (rw [← lgS_e iv (by omega)])) dX0_longestStretch_52
      · skip
        refine lv_aload_n hx hb dX0_longestStretch_16 rfl (lv_at hl 0 rfl) ?_
        refine lv_iload hx hb dX0_longestStretch_17 (lv_at hl 4 rfl) ?_
        refine lv_iload_n hx hb dX0_longestStretch_19 rfl (lv_at hl 1 rfl) ?_
        refine callVO (n := 2) (As := [.int (iI ((pl : Nat) : Int)), .int (iI ((w1 : Nat) : Int))]) (rest := []) (wc := [(h, .inr (0, [.ref a1, .ref a2, .ref a3, .int (iI ((tt : Nat) : Int)), .ref a4, .int (iI ((ln : Nat) : Int)), .ref a5, .int (iI ((ed : Nat) : Int)), .int (iI ((es : Nat) : Int)), .int (iI ((ac : Nat) : Int)), .int (iI ((cu : Nat) : Int))])), (a2, .inl (cI, 160, .inl (rN (ow)))), (a4, .inl (cI, 60, .inl (rN (ix))))]) S (c_stretchFrom l D cI cB cZ cO h a1 a2 a3 a4 a5 tt ln ed es ac cu ow ix pl w1 (by first | assumption | (first | omega | (rw [← lgS_e iv (by omega)]))) (by first | assumption | (first | omega | (rw [← lgS_e iv (by omega)]))) (by first | assumption | (first | omega | (rw [← lgS_e iv (by omega)]))) (by first | assumption | (first | omega | (rw [← lgS_e iv (by omega)]))) (by first | assumption | (first | omega | (rw [← lgS_e iv (by omega)])))) gX0_longestStretch_X0_stretchFrom rfl ⟨rfl, rfl⟩ (by decide +kernel) ⟨Nat.le_of_ble_eq_true rfl, Nat.le_of_ble_eq_true rfl⟩ hE hP [0, 1, 2] rfl 0 0 rfl rfl rfl hl.1 rfl (Nat.le_of_ble_eq_true rfl) dX0_longestStretch_20 ⟨Nat.le_of_ble_eq_true rfl, Nat.le_of_ble_eq_true rfl⟩ ?_
        refine lv_istore (lv' := [(5, .int (iI ((stp (isO ow ix w1) pl ln : Nat) : Int))), (0, .ref h), (1, .int (iI ((w1 : Nat) : Int))), (2, .int (iI ((b : Nat) : Int))), (3, .int (iI ((lg : Nat) : Int))), (4, .int (iI ((pl : Nat) : Int)))]) hx hb dX0_longestStretch_23 hl (by decide) rfl (fun ls hl => ?_)
        refine lv_iload hx hb dX0_longestStretch_25 (lv_at hl 0 rfl) ?_
        refine lv_iload_n hx hb dX0_longestStretch_27 rfl (lv_at hl 4 rfl) ?_
        refine r_icmp_le (tgt := 37) hx hb (by first | omega | (rw [← lgS_e iv (by omega)])) (by first | omega | (rw [← lgS_e iv (by omega)])) dX0_longestStretch_28 (by decide) (fun c_2 => ?_) (fun c_2 => ?_)
        · skip
          refine lv_iload hx hb dX0_longestStretch_37 (lv_at hl 5 rfl) ?_
          refine lv_iload hx hb dX0_longestStretch_39 (lv_at hl 0 rfl) ?_
          refine r_iconst hx hb dX0_longestStretch_41 ?_
          refine r_mmax (v := ((max (stp (isO ow ix w1) pl ln) 1 : Nat) : Int)) hx hb (S.2.2.1.trans hl.1.symm) hown (hts _ mlX0_longestStretch_145) (hts _ msX0_longestStretch_max) (hts _ miX0_longestStretch) (hts _ mcX0_longestStretch_max) (Nat.le_of_ble_eq_true rfl) (Nat.le_of_ble_eq_true rfl) (Nat.le_of_ble_eq_true rfl) (Nat.le_of_ble_eq_true rfl) (by first | omega | (rw [← lgS_e iv (by omega)])) (⟨by decide, by decide⟩) (by omega) dX0_longestStretch_42 ?_
          refine r_iadd (v := ((pl + (max (stp (isO ow ix w1) pl ln) 1) : Nat) : Int)) hx hb (rfl) dX0_longestStretch_45 ?_
          refine lv_istore (lv' := [(4, .int (iI ((pl + (max (stp (isO ow ix w1) pl ln) 1) : Nat) : Int))), (5, .int (iI ((stp (isO ow ix w1) pl ln : Nat) : Int))), (0, .ref h), (1, .int (iI ((w1 : Nat) : Int))), (2, .int (iI ((b : Nat) : Int))), (3, .int (iI ((lg : Nat) : Int)))]) hx hb dX0_longestStretch_46 hl (by decide) rfl (fun ls hl => ?_)
          refine lv_goto (tgt := 7) hx hb dX0_longestStretch_48 (by decide) ?_
          exact ih_7 b lg (pl + (max (stp (isO ow ix w1) pl ln) 1)) (by first | omega | (rw [← lgS_e iv (by omega)])) (by first | exact lgS_t iv (by omega) (by omega) | exact lgS_f iv (by omega) (by omega)) ls (lv_sub hl [2, 3, 4, 5, 0] rfl)
        · skip
          refine lv_iload hx hb dX0_longestStretch_31 (lv_at hl 0 rfl) ?_
          refine lv_istore_n (lv' := [(3, .int (iI ((stp (isO ow ix w1) pl ln : Nat) : Int))), (5, .int (iI ((stp (isO ow ix w1) pl ln : Nat) : Int))), (0, .ref h), (1, .int (iI ((w1 : Nat) : Int))), (2, .int (iI ((b : Nat) : Int))), (4, .int (iI ((pl : Nat) : Int)))]) hx hb dX0_longestStretch_33 rfl hl (by decide) rfl (fun ls hl => ?_)
          refine lv_iload hx hb dX0_longestStretch_34 (lv_at hl 5 rfl) ?_
          refine lv_istore_n (lv' := [(2, .int (iI ((pl : Nat) : Int))), (3, .int (iI ((stp (isO ow ix w1) pl ln : Nat) : Int))), (5, .int (iI ((stp (isO ow ix w1) pl ln : Nat) : Int))), (0, .ref h), (1, .int (iI ((w1 : Nat) : Int))), (4, .int (iI ((pl : Nat) : Int)))]) hx hb dX0_longestStretch_36 rfl hl (by decide) rfl (fun ls hl => ?_)
          refine lv_iload hx hb dX0_longestStretch_37 (lv_at hl 5 rfl) ?_
          refine lv_iload hx hb dX0_longestStretch_39 (lv_at hl 2 rfl) ?_
          refine r_iconst hx hb dX0_longestStretch_41 ?_
          refine r_mmax (v := ((max (stp (isO ow ix w1) pl ln) 1 : Nat) : Int)) hx hb (S.2.2.1.trans hl.1.symm) hown (hts _ mlX0_longestStretch_145) (hts _ msX0_longestStretch_max) (hts _ miX0_longestStretch) (hts _ mcX0_longestStretch_max) (Nat.le_of_ble_eq_true rfl) (Nat.le_of_ble_eq_true rfl) (Nat.le_of_ble_eq_true rfl) (Nat.le_of_ble_eq_true rfl) (by first | omega | (rw [← lgS_e iv (by omega)])) (⟨by decide, by decide⟩) (by omega) dX0_longestStretch_42 ?_
          refine r_iadd (v := ((pl + (max (stp (isO ow ix w1) pl ln) 1) : Nat) : Int)) hx hb (rfl) dX0_longestStretch_45 ?_
          refine lv_istore (lv' := [(4, .int (iI ((pl + (max (stp (isO ow ix w1) pl ln) 1) : Nat) : Int))), (2, .int (iI ((pl : Nat) : Int))), (3, .int (iI ((stp (isO ow ix w1) pl ln : Nat) : Int))), (5, .int (iI ((stp (isO ow ix w1) pl ln : Nat) : Int))), (0, .ref h), (1, .int (iI ((w1 : Nat) : Int)))]) hx hb dX0_longestStretch_46 hl (by decide) rfl (fun ls hl => ?_)
          refine lv_goto (tgt := 7) hx hb dX0_longestStretch_48 (by decide) ?_
          exact ih_7 pl (stp (isO ow ix w1) pl ln) (pl + (max (stp (isO ow ix w1) pl ln) 1)) (by first | omega | (rw [← lgS_e iv (by omega)])) (by first | exact lgS_t iv (by omega) (by omega) | exact lgS_f iv (by omega) (by omega)) ls (lv_sub hl [4, 5, 1, 2, 0] rfl)
  exact loop_7 ((ln - 0) + 1) 0 0 0 (by first | omega | (rw [← lgS_e iv (by omega)])) (by exact lgS_0) ls (lv_sub hl [3, 4, 2, 1, 0] rfl)

theorem kX0_editsWithin_21 : Cond.fieldLink RX0 21 "PricedUndo$Buffer" "indexes" "[I" ∈ wsX0_editsWithin := by decide +kernel
theorem nX0_editsWithin_X0 : ∀ w ∈ u_ws RX0 TX0 11, w ∈ wsX0_editsWithin := by decide +kernel
theorem kX0_editsWithin_18 : Cond.fieldLink RX0 18 "PricedUndo$Buffer" "erasers" "[I" ∈ wsX0_editsWithin := by decide +kernel
theorem kX0_editsWithin_56 : Cond.fieldLink RX0 56 "PricedUndo$Buffer" "active" "I" ∈ wsX0_editsWithin := by decide +kernel
theorem kX0_editsWithin_15 : Cond.fieldLink RX0 15 "PricedUndo$Buffer" "owners" "[I" ∈ wsX0_editsWithin := by decide +kernel
set_option maxHeartbeats 4000000 in
set_option maxRecDepth 100000 in
theorem c_editsWithin (l : Launch) (D : va_G) (cI cB cZ cO : ClassId) (h : Nat) (a1 : Nat) (a2 : Nat) (a3 : Nat) (a4 : Nat) (a5 : Nat) (tt : Nat) (ln : Nat) (ed : Nat) (es : Nat) (ac : Nat) (cu : Nat) (ow : Nat → Nat) (er : Nat → Nat) (ix : Nat → Nat) (f1 : Nat) (t1 : Nat) (hf1 : f1 ≤ t1) (ht1 : t1 < ln) (hln : ln ≤ 60) (hix : ∀ j, ix j < 160) (hac : ac < 65536) (hm : ix f1 ≤ ix t1) (how : ∀ k, ow k < 65536) (her : ∀ k, er k < 65536) : Met l yX0_editsWithin wsX0_editsWithin ({ frames := 1, cells := 0, slots := 0, locals := 22 }) (va_Pc [.ref h, .int (iI ((f1 : Nat) : Int)), .int (iI ((t1 + 1 : Nat) : Int))] (RO D cI cB cZ cO [(h, .inr (0, [.ref a1, .ref a2, .ref a3, .int (iI ((tt : Nat) : Int)), .ref a4, .int (iI ((ln : Nat) : Int)), .ref a5, .int (iI ((ed : Nat) : Int)), .int (iI ((es : Nat) : Int)), .int (iI ((ac : Nat) : Int)), .int (iI ((cu : Nat) : Int))])), (a2, .inl (cI, 160, .inl (rN (ow)))), (a3, .inl (cI, 160, .inl (rN (er)))), (a4, .inl (cI, 60, .inl (rN (ix))))])) (QO ((edw ow er ac (ix f1) (ix t1 + 1 - ix f1) : Nat) : Int)) 0 0 (fun _ => False) := by
  refine startO (cc := cX0_editsWithin) (maxL := 5) (ret := (some .int)) (by decide) rfl (Nat.le_of_ble_eq_true rfl) ?_
  intro p e s m below meth c S hr hlocks hE hP ls hl
  have hx := S.1
  have hb := S.2.1
  have hown := S.2.2.2.1
  have hts := S.2.2.2.2
  have hK := hE.1
  have hl : lv_has ls 5 [(0, .ref h), (1, .int (iI ((f1 : Nat) : Int))), (2, .int (iI ((t1 + 1 : Nat) : Int)))] := hl
  refine lv_aload_n hx hb dX0_editsWithin_0 rfl (lv_at hl 0 rfl) ?_
  refine lv_iload_n hx hb dX0_editsWithin_1 rfl (lv_at hl 1 rfl) ?_
  refine lv_iload_n hx hb dX0_editsWithin_2 rfl (lv_at hl 2 rfl) ?_
  refine callVO (n := 2) (As := [.int (iI ((f1 : Nat) : Int)), .int (iI ((t1 + 1 : Nat) : Int))]) (rest := []) (wc := [(h, .inr (0, [.ref a1, .ref a2, .ref a3, .int (iI ((tt : Nat) : Int)), .ref a4, .int (iI ((ln : Nat) : Int)), .ref a5, .int (iI ((ed : Nat) : Int)), .int (iI ((es : Nat) : Int)), .int (iI ((ac : Nat) : Int)), .int (iI ((cu : Nat) : Int))]))]) S (c_hasStretch l D cI cB cZ cO h a1 a2 a3 a4 a5 tt ln ed es ac cu (((f1 : Nat) : Int)) (((t1 + 1 : Nat) : Int)) (by first | assumption | (first | omega | (have h9 := hix f1; have h8 := hix t1; omega) | exact hix _ | (rw [show ix t1 + 1 - ix f1 = d by omega]))) (by first | assumption | (first | omega | (have h9 := hix f1; have h8 := hix t1; omega) | exact hix _ | (rw [show ix t1 + 1 - ix f1 = d by omega]))) (by first | assumption | (first | omega | (have h9 := hix f1; have h8 := hix t1; omega) | exact hix _ | (rw [show ix t1 + 1 - ix f1 = d by omega])))) gX0_editsWithin_X0_hasStretch rfl ⟨rfl, rfl⟩ (by decide +kernel) ⟨Nat.le_of_ble_eq_true rfl, Nat.le_of_ble_eq_true rfl⟩ hE hP [0] rfl 0 0 rfl rfl rfl hl.1 rfl (Nat.le_of_ble_eq_true rfl) dX0_editsWithin_3 ⟨Nat.le_of_ble_eq_true rfl, Nat.le_of_ble_eq_true rfl⟩ ?_
  refine r_ifb_ne (tgt := 11) hx hb dX0_editsWithin_6 (by decide) (fun c_1 => ?_) (fun c_1 => ?_)
  · skip
    refine r_iconst hx hb dX0_editsWithin_11 ?_
    refine lv_istore_n (lv' := [(3, .int (iI 0)), (0, .ref h), (1, .int (iI ((f1 : Nat) : Int))), (2, .int (iI ((t1 + 1 : Nat) : Int)))]) hx hb dX0_editsWithin_12 rfl hl (by decide) rfl (fun ls hl => ?_)
    refine lv_aload_n hx hb dX0_editsWithin_13 rfl (lv_at hl 1 rfl) ?_
    refine va_get (D := D) (ci := 0) (v := .ref a4) (C := RX0) (T := TX0) (N := 11) hx hb hts nX0_editsWithin_X0 hown hK hP 0 rfl rfl 4 (by decide) (hts _ kX0_editsWithin_21) (fun _ h9 => h9) rfl dX0_editsWithin_14 ?_
    refine lv_iload_n hx hb dX0_editsWithin_17 rfl (lv_at hl 2 rfl) ?_
    refine r_ialdN hx hb hK hP 3 0 rfl rfl (f1) (rfl) (by first | omega | (have h9 := hix f1; have h8 := hix t1; omega) | exact hix _ | (rw [show ix t1 + 1 - ix f1 = d by omega])) (by decide) dX0_editsWithin_18 ?_
    refine lv_istore (lv' := [(4, .int (iI ((ix f1 : Nat) : Int))), (3, .int (iI 0)), (0, .ref h), (1, .int (iI ((f1 : Nat) : Int))), (2, .int (iI ((t1 + 1 : Nat) : Int)))]) hx hb dX0_editsWithin_19 hl (by decide) rfl (fun ls hl => ?_)
    have loop_21 : ∀ (n_21 : Nat) (d : Nat), (ix t1 + 1 - (ix f1 + d)) < n_21 → (ix f1 + d ≤ ix t1 + 1) → ∀ (ls : Array Slot), lv_has ls 5 [(0, .ref h), (1, .int (iI ((f1 : Nat) : Int))), (2, .int (iI ((t1 + 1 : Nat) : Int))), (3, .int (iI ((edw ow er ac (ix f1) d : Nat) : Int))), (4, .int (iI ((ix f1 + d : Nat) : Int)))] → W p l e ({ frames := 1, cells := 0, slots := 0, locals := 22 }) s m ([.ref h, .int (iI ((f1 : Nat) : Int)), .int (iI ((t1 + 1 : Nat) : Int))] : List Value).toArray below meth c s.heap [] 0 0 (MQ below (QO ((edw ow er ac (ix f1) (ix t1 + 1 - ix f1) : Nat) : Int)) ([.ref h, .int (iI ((f1 : Nat) : Int)), .int (iI ((t1 + 1 : Nat) : Int))] : List Value).toArray s 0 0 (fun _ => False)) (F0 m 21 ls []) := by
      intro n_21
      induction n_21 with
      | zero => intro d h_meas; exact absurd h_meas (Nat.not_lt_zero _)
      | succ n_21 ih_21 =>
        intro d h_m21 id ls hl
        have hx9 := hix t1
        refine lv_iload hx hb dX0_editsWithin_21 (lv_at hl 4 rfl) ?_
        refine lv_aload_n hx hb dX0_editsWithin_23 rfl (lv_at hl 0 rfl) ?_
        refine va_get (D := D) (ci := 0) (v := .ref a4) (C := RX0) (T := TX0) (N := 11) hx hb hts nX0_editsWithin_X0 hown hK hP 0 rfl rfl 4 (by decide) (hts _ kX0_editsWithin_21) (fun _ h9 => h9) rfl dX0_editsWithin_24 ?_
        refine lv_iload_n hx hb dX0_editsWithin_27 rfl (lv_at hl 2 rfl) ?_
        refine r_iconst hx hb dX0_editsWithin_28 ?_
        refine r_isub (v := ((t1 : Nat) : Int)) hx hb (by first | omega | (have h9 := hix f1; have h8 := hix t1; omega) | exact hix _ | (rw [show ix t1 + 1 - ix f1 = d by omega])) dX0_editsWithin_29 ?_
        refine r_ialdN hx hb hK hP 3 0 rfl rfl (t1) (rfl) (by first | omega | (have h9 := hix f1; have h8 := hix t1; omega) | exact hix _ | (rw [show ix t1 + 1 - ix f1 = d by omega])) (by decide) dX0_editsWithin_30 ?_
        refine r_icmp_gt (tgt := 78) hx hb (by first | omega | (have h9 := hix f1; have h8 := hix t1; omega) | exact hix _ | (rw [show ix t1 + 1 - ix f1 = d by omega])) (by first | omega | (have h9 := hix f1; have h8 := hix t1; omega) | exact hix _ | (rw [show ix t1 + 1 - ix f1 = d by omega])) dX0_editsWithin_31 (by decide) (fun c_2 => ?_) (fun c_2 => ?_)
        · skip
          refine lv_iload_n hx hb dX0_editsWithin_78 rfl (lv_at hl 3 rfl) ?_
          exact r_iretO hx hb hr hlocks (by first | omega | (have h9 := hix f1; have h8 := hix t1; omega) | exact hix _ | (rw [show ix t1 + 1 - ix f1 = d by omega])) dX0_editsWithin_79
        · skip
          refine lv_iload_n hx hb dX0_editsWithin_34 rfl (lv_at hl 3 rfl) ?_
          refine lv_aload_n hx hb dX0_editsWithin_35 rfl (lv_at hl 0 rfl) ?_
          refine va_get (D := D) (ci := 0) (v := .ref a3) (C := RX0) (T := TX0) (N := 11) hx hb hts nX0_editsWithin_X0 hown hK hP 0 rfl rfl 2 (by decide) (hts _ kX0_editsWithin_18) (fun _ h9 => h9) rfl dX0_editsWithin_36 ?_
          refine lv_iload hx hb dX0_editsWithin_39 (lv_at hl 4 rfl) ?_
          refine r_ialdN hx hb hK hP 2 0 rfl rfl (ix f1 + d) (rfl) (by first | omega | (have h9 := hix f1; have h8 := hix t1; omega) | exact hix _ | (rw [show ix t1 + 1 - ix f1 = d by omega])) (by decide) dX0_editsWithin_41 ?_
          refine lv_aload_n hx hb dX0_editsWithin_42 rfl (lv_at hl 0 rfl) ?_
          refine va_get (D := D) (ci := 0) (v := .int (iI ((ac : Nat) : Int))) (C := RX0) (T := TX0) (N := 11) hx hb hts nX0_editsWithin_X0 hown hK hP 0 rfl rfl 9 (by decide) (hts _ kX0_editsWithin_56) (fun _ h9 => h9) rfl dX0_editsWithin_43 ?_
          refine r_iand hx hb (er (ix f1 + d)) (ac) (rfl) (rfl) dX0_editsWithin_46 ?_
          refine r_ior hx hb (edw ow er ac (ix f1) d) ((er (ix f1 + d)) &&& ac) (rfl) (rfl) dX0_editsWithin_47 ?_
          refine lv_istore_n (lv' := [(3, .int (iI (((edw ow er ac (ix f1) d) ||| ((er (ix f1 + d)) &&& ac) : Nat) : Int))), (0, .ref h), (1, .int (iI ((f1 : Nat) : Int))), (2, .int (iI ((t1 + 1 : Nat) : Int))), (4, .int (iI ((ix f1 + d : Nat) : Int)))]) hx hb dX0_editsWithin_48 rfl hl (by decide) rfl (fun ls hl => ?_)
          refine lv_aload_n hx hb dX0_editsWithin_49 rfl (lv_at hl 1 rfl) ?_
          refine lv_iload hx hb dX0_editsWithin_50 (lv_at hl 4 rfl) ?_
          refine lv_aload_n hx hb dX0_editsWithin_52 rfl (lv_at hl 1 rfl) ?_
          refine va_get (D := D) (ci := 0) (v := .int (iI ((ac : Nat) : Int))) (C := RX0) (T := TX0) (N := 11) hx hb hts nX0_editsWithin_X0 hown hK hP 0 rfl rfl 9 (by decide) (hts _ kX0_editsWithin_56) (fun _ h9 => h9) rfl dX0_editsWithin_53 ?_
          refine callVO (n := 2) (As := [.int (iI ((ix f1 + d : Nat) : Int)), .int (iI ((ac : Nat) : Int))]) (rest := []) (wc := [(h, .inr (0, [.ref a1, .ref a2, .ref a3, .int (iI ((tt : Nat) : Int)), .ref a4, .int (iI ((ln : Nat) : Int)), .ref a5, .int (iI ((ed : Nat) : Int)), .int (iI ((es : Nat) : Int)), .int (iI ((ac : Nat) : Int)), .int (iI ((cu : Nat) : Int))])), (a2, .inl (cI, 160, .inl (rN (ow)))), (a3, .inl (cI, 160, .inl (rN (er))))]) S (c_isVisible l D cI cB cZ cO h a1 a2 a3 a4 a5 tt ln ed es ac cu ow er (ix f1 + d) ac (by first | assumption | (first | omega | (have h9 := hix f1; have h8 := hix t1; omega) | exact hix _ | (rw [show ix t1 + 1 - ix f1 = d by omega]))) (by first | assumption | (first | omega | (have h9 := hix f1; have h8 := hix t1; omega) | exact hix _ | (rw [show ix t1 + 1 - ix f1 = d by omega]))) (by first | assumption | (first | omega | (have h9 := hix f1; have h8 := hix t1; omega) | exact hix _ | (rw [show ix t1 + 1 - ix f1 = d by omega]))) (by first | assumption | (first | omega | (have h9 := hix f1; have h8 := hix t1; omega) | exact hix _ | (rw [show ix t1 + 1 - ix f1 = d by omega])))) gX0_editsWithin_X0_isVisible rfl ⟨rfl, rfl⟩ (by decide +kernel) ⟨Nat.le_of_ble_eq_true rfl, Nat.le_of_ble_eq_true rfl⟩ hE hP [0, 1, 2] rfl 0 0 rfl rfl rfl hl.1 rfl (Nat.le_of_ble_eq_true rfl) dX0_editsWithin_56 ⟨Nat.le_of_ble_eq_true rfl, Nat.le_of_ble_eq_true rfl⟩ ?_
          refine r_ifb_eq (tgt := 72) hx hb dX0_editsWithin_59 (by decide) (fun c_3 => ?_) (fun c_3 => ?_)
          · skip
            refine lv_iinc (v := iI (((ix f1 + d) + 1 : Nat) : Int)) (lv' := [(4, .int (iI (((ix f1 + d) + 1 : Nat) : Int))), (3, .int (iI (((edw ow er ac (ix f1) d) ||| ((er (ix f1 + d)) &&& ac) : Nat) : Int))), (0, .ref h), (1, .int (iI ((f1 : Nat) : Int))), (2, .int (iI ((t1 + 1 : Nat) : Int)))]) hx hb dX0_editsWithin_72 hl (k := 4) rfl ((iI_add _ _).trans (ii (rfl))) (by decide) rfl (fun ls hl => ?_)
            refine lv_goto (tgt := 21) hx hb dX0_editsWithin_75 (by decide) ?_
            have hl : lv_has ls 5 [(4, .int (iI (((ix f1 + d) + 1 : Nat) : Int))), (3, .int (iI ((edw ow er ac (ix f1) (d + 1) : Nat) : Int))), (0, .ref h), (1, .int (iI ((f1 : Nat) : Int))), (2, .int (iI ((t1 + 1 : Nat) : Int)))] := lv_chg hl 1 3 rfl (show ((((edw ow er ac (ix f1) d) ||| ((er (ix f1 + d)) &&& ac) : Nat) : Int) : Int) = ((edw ow er ac (ix f1) (d + 1) : Nat) : Int) from by first | (rw [edw_t (by assumption)]) | (rw [edw_f (by assumption)])) rfl
            have hl : lv_has ls 5 [(4, .int (iI ((ix f1 + (d + 1) : Nat) : Int))), (3, .int (iI ((edw ow er ac (ix f1) (d + 1) : Nat) : Int))), (0, .ref h), (1, .int (iI ((f1 : Nat) : Int))), (2, .int (iI ((t1 + 1 : Nat) : Int)))] := lv_chg hl 0 4 rfl (show ((((ix f1 + d) + 1 : Nat) : Int) : Int) = ((ix f1 + (d + 1) : Nat) : Int) from by first | omega | (have h9 := hix f1; have h8 := hix t1; omega) | exact hix _ | (rw [show ix t1 + 1 - ix f1 = d by omega])) rfl
            exact ih_21 (d + 1) (by first | omega | (have h9 := hix f1; have h8 := hix t1; omega) | exact hix _ | (rw [show ix t1 + 1 - ix f1 = d by omega])) (by first | assumption | (first | omega | (have h9 := hix f1; have h8 := hix t1; omega) | exact hix _ | (rw [show ix t1 + 1 - ix f1 = d by omega]))) ls (lv_sub hl [2, 3, 4, 1, 0] rfl)
          · skip
            refine lv_iload_n hx hb dX0_editsWithin_62 rfl (lv_at hl 0 rfl) ?_
            refine lv_aload_n hx hb dX0_editsWithin_63 rfl (lv_at hl 1 rfl) ?_
            refine va_get (D := D) (ci := 0) (v := .ref a2) (C := RX0) (T := TX0) (N := 11) hx hb hts nX0_editsWithin_X0 hown hK hP 0 rfl rfl 1 (by decide) (hts _ kX0_editsWithin_15) (fun _ h9 => h9) rfl dX0_editsWithin_64 ?_
            refine lv_iload hx hb dX0_editsWithin_67 (lv_at hl 4 rfl) ?_
            refine r_ialdN hx hb hK hP 1 0 rfl rfl (ix f1 + d) (rfl) (by first | omega | (have h9 := hix f1; have h8 := hix t1; omega) | exact hix _ | (rw [show ix t1 + 1 - ix f1 = d by omega])) (by decide) dX0_editsWithin_69 ?_
            refine r_ior hx hb ((edw ow er ac (ix f1) d) ||| ((er (ix f1 + d)) &&& ac)) (ow (ix f1 + d)) (rfl) (rfl) dX0_editsWithin_70 ?_
            refine lv_istore_n (lv' := [(3, .int (iI ((((edw ow er ac (ix f1) d) ||| ((er (ix f1 + d)) &&& ac)) ||| (ow (ix f1 + d)) : Nat) : Int))), (0, .ref h), (1, .int (iI ((f1 : Nat) : Int))), (2, .int (iI ((t1 + 1 : Nat) : Int))), (4, .int (iI ((ix f1 + d : Nat) : Int)))]) hx hb dX0_editsWithin_71 rfl hl (by decide) rfl (fun ls hl => ?_)
            refine lv_iinc (v := iI (((ix f1 + d) + 1 : Nat) : Int)) (lv' := [(4, .int (iI (((ix f1 + d) + 1 : Nat) : Int))), (3, .int (iI ((((edw ow er ac (ix f1) d) ||| ((er (ix f1 + d)) &&& ac)) ||| (ow (ix f1 + d)) : Nat) : Int))), (0, .ref h), (1, .int (iI ((f1 : Nat) : Int))), (2, .int (iI ((t1 + 1 : Nat) : Int)))]) hx hb dX0_editsWithin_72 hl (k := 4) rfl ((iI_add _ _).trans (ii (rfl))) (by decide) rfl (fun ls hl => ?_)
            refine lv_goto (tgt := 21) hx hb dX0_editsWithin_75 (by decide) ?_
            have hl : lv_has ls 5 [(4, .int (iI (((ix f1 + d) + 1 : Nat) : Int))), (3, .int (iI ((edw ow er ac (ix f1) (d + 1) : Nat) : Int))), (0, .ref h), (1, .int (iI ((f1 : Nat) : Int))), (2, .int (iI ((t1 + 1 : Nat) : Int)))] := lv_chg hl 1 3 rfl (show (((((edw ow er ac (ix f1) d) ||| ((er (ix f1 + d)) &&& ac)) ||| (ow (ix f1 + d)) : Nat) : Int) : Int) = ((edw ow er ac (ix f1) (d + 1) : Nat) : Int) from by first | (rw [edw_t (by assumption)]) | (rw [edw_f (by assumption)])) rfl
            have hl : lv_has ls 5 [(4, .int (iI ((ix f1 + (d + 1) : Nat) : Int))), (3, .int (iI ((edw ow er ac (ix f1) (d + 1) : Nat) : Int))), (0, .ref h), (1, .int (iI ((f1 : Nat) : Int))), (2, .int (iI ((t1 + 1 : Nat) : Int)))] := lv_chg hl 0 4 rfl (show ((((ix f1 + d) + 1 : Nat) : Int) : Int) = ((ix f1 + (d + 1) : Nat) : Int) from by first | omega | (have h9 := hix f1; have h8 := hix t1; omega) | exact hix _ | (rw [show ix t1 + 1 - ix f1 = d by omega])) rfl
            exact ih_21 (d + 1) (by first | omega | (have h9 := hix f1; have h8 := hix t1; omega) | exact hix _ | (rw [show ix t1 + 1 - ix f1 = d by omega])) (by first | assumption | (first | omega | (have h9 := hix f1; have h8 := hix t1; omega) | exact hix _ | (rw [show ix t1 + 1 - ix f1 = d by omega]))) ls (lv_sub hl [2, 3, 4, 1, 0] rfl)
    have hl : lv_has ls 5 [(4, .int (iI ((ix f1 : Nat) : Int))), (3, .int (iI ((edw ow er ac (ix f1) 0 : Nat) : Int))), (0, .ref h), (1, .int (iI ((f1 : Nat) : Int))), (2, .int (iI ((t1 + 1 : Nat) : Int)))] := lv_chg hl 1 3 rfl (show (0 : Int) = ((edw ow er ac (ix f1) 0 : Nat) : Int) from by rfl) rfl
    have hl : lv_has ls 5 [(4, .int (iI ((ix f1 + 0 : Nat) : Int))), (3, .int (iI ((edw ow er ac (ix f1) 0 : Nat) : Int))), (0, .ref h), (1, .int (iI ((f1 : Nat) : Int))), (2, .int (iI ((t1 + 1 : Nat) : Int)))] := lv_chg hl 0 4 rfl (show (((ix f1 : Nat) : Int) : Int) = ((ix f1 + 0 : Nat) : Int) from by first | omega | (have h9 := hix f1; have h8 := hix t1; omega) | exact hix _ | (rw [show ix t1 + 1 - ix f1 = d by omega])) rfl
    exact loop_21 ((ix t1 + 1 - (ix f1 + 0)) + 1) 0 (by first | omega | (have h9 := hix f1; have h8 := hix t1; omega) | exact hix _ | (rw [show ix t1 + 1 - ix f1 = d by omega])) (by first | assumption | (first | omega | (have h9 := hix f1; have h8 := hix t1; omega) | exact hix _ | (rw [show ix t1 + 1 - ix f1 = d by omega]))) ls (lv_sub hl [2, 3, 4, 1, 0] rfl)
  · skip
    exfalso; omega

theorem kX0_differencesFrom_71 : Cond.fieldLink RX0 71 "PricedUndo$Buffer" "length" "I" ∈ wsX0_differencesFrom := by decide +kernel
theorem nX0_differencesFrom_X0 : ∀ w ∈ u_ws RX0 TX0 11, w ∈ wsX0_differencesFrom := by decide +kernel
theorem mlX0_differencesFrom_33 : Cond.methodLink RX0 33 Lib.Math.min.name ∈ wsX0_differencesFrom := by decide +kernel
theorem msX0_differencesFrom_min : Cond.static Lib.Math.min.name ∈ wsX0_differencesFrom := by decide +kernel
theorem miX0_differencesFrom : Cond.initialized "java/lang/Math" ∈ wsX0_differencesFrom := by decide +kernel
theorem mcX0_differencesFrom_min : Cond.code Lib.Math.min.name Lib.Math.min.code 2 (some .int) ∈ wsX0_differencesFrom := by decide +kernel
theorem mlX0_differencesFrom_135 : Cond.methodLink RX0 135 Lib.Math.abs.name ∈ wsX0_differencesFrom := by decide +kernel
theorem msX0_differencesFrom_abs : Cond.static Lib.Math.abs.name ∈ wsX0_differencesFrom := by decide +kernel
theorem mcX0_differencesFrom_abs : Cond.code Lib.Math.abs.name Lib.Math.abs.code 1 (some .int) ∈ wsX0_differencesFrom := by decide +kernel
set_option maxHeartbeats 4000000 in
set_option maxRecDepth 100000 in
theorem c_differencesFrom (l : Launch) (D : va_G) (cI cB cZ cO : ClassId) (h : Nat) (a1 : Nat) (a2 : Nat) (a3 : Nat) (a4 : Nat) (a5 : Nat) (tt : Nat) (ln : Nat) (ed : Nat) (es : Nat) (ac : Nat) (cu : Nat) (co : Nat → Nat) (ix : Nat → Nat) (hz : Nat) (a1z : Nat) (a2z : Nat) (a3z : Nat) (a4z : Nat) (a5z : Nat) (ttz : Nat) (lnz : Nat) (edz : Nat) (esz : Nat) (acz : Nat) (cuz : Nat) (coz : Nat → Nat) (ixz : Nat → Nat) (hln : ln ≤ 60) (hix : ∀ j, ix j < 160) (hlnz : lnz ≤ 60) (hixz : ∀ j, ixz j < 160) (hco : ∀ k, co k < 65536) (hcoz : ∀ k, coz k < 65536) : Met l yX0_differencesFrom wsX0_differencesFrom ({ frames := 2, cells := 0, slots := 0, locals := 42 }) (va_Pc [.ref h, .ref hz] (RO D cI cB cZ cO [(h, .inr (0, [.ref a1, .ref a2, .ref a3, .int (iI ((tt : Nat) : Int)), .ref a4, .int (iI ((ln : Nat) : Int)), .ref a5, .int (iI ((ed : Nat) : Int)), .int (iI ((es : Nat) : Int)), .int (iI ((ac : Nat) : Int)), .int (iI ((cu : Nat) : Int))])), (a1, .inl (cI, 160, .inl (rN (co)))), (a4, .inl (cI, 60, .inl (rN (ix)))), (hz, .inr (0, [.ref a1z, .ref a2z, .ref a3z, .int (iI ((ttz : Nat) : Int)), .ref a4z, .int (iI ((lnz : Nat) : Int)), .ref a5z, .int (iI ((edz : Nat) : Int)), .int (iI ((esz : Nat) : Int)), .int (iI ((acz : Nat) : Int)), .int (iI ((cuz : Nat) : Int))])), (a1z, .inl (cI, 160, .inl (rN (coz)))), (a4z, .inl (cI, 60, .inl (rN (ixz))))])) (QO ((((ln : Int) - (lnz : Int)).natAbs + cnt (neb (fun j => co (ix j)) (fun j => coz (ixz j))) (min ln lnz) : Nat) : Int)) 0 0 (fun _ => False) := by
  refine startO (cc := cX0_differencesFrom) (maxL := 5) (ret := (some .int)) (by decide) rfl (Nat.le_of_ble_eq_true rfl) ?_
  intro p e s m below meth c S hr hlocks hE hP ls hl
  have hx := S.1
  have hb := S.2.1
  have hown := S.2.2.2.1
  have hts := S.2.2.2.2
  have hK := hE.1
  have hl : lv_has ls 5 [(0, .ref h), (1, .ref hz)] := hl
  refine lv_aload_n hx hb dX0_differencesFrom_0 rfl (lv_at hl 0 rfl) ?_
  refine va_get (D := D) (ci := 0) (v := .int (iI ((ln : Nat) : Int))) (C := RX0) (T := TX0) (N := 11) hx hb hts nX0_differencesFrom_X0 hown hK hP 0 rfl rfl 5 (by decide) (hts _ kX0_differencesFrom_71) (fun _ h9 => h9) rfl dX0_differencesFrom_1 ?_
  refine lv_aload_n hx hb dX0_differencesFrom_4 rfl (lv_at hl 1 rfl) ?_
  refine va_get (D := D) (ci := 0) (v := .int (iI ((lnz : Nat) : Int))) (C := RX0) (T := TX0) (N := 11) hx hb hts nX0_differencesFrom_X0 hown hK hP 3 rfl rfl 5 (by decide) (hts _ kX0_differencesFrom_71) (fun _ h9 => h9) rfl dX0_differencesFrom_5 ?_
  refine r_mmin (v := ((min ln lnz : Nat) : Int)) hx hb (S.2.2.1.trans hl.1.symm) hown (hts _ mlX0_differencesFrom_33) (hts _ msX0_differencesFrom_min) (hts _ miX0_differencesFrom) (hts _ mcX0_differencesFrom_min) (Nat.le_of_ble_eq_true rfl) (Nat.le_of_ble_eq_true rfl) (Nat.le_of_ble_eq_true rfl) (Nat.le_of_ble_eq_true rfl) (by first | omega | (have h9 := hco (ix k); have h8 := hcoz (ixz k); omega) | (rw [show k = min ln lnz by omega])) (by first | omega | (have h9 := hco (ix k); have h8 := hcoz (ixz k); omega) | (rw [show k = min ln lnz by omega])) (by omega) dX0_differencesFrom_8 ?_
  refine lv_istore_n (lv' := [(2, .int (iI ((min ln lnz : Nat) : Int))), (0, .ref h), (1, .ref hz)]) hx hb dX0_differencesFrom_11 rfl hl (by decide) rfl (fun ls hl => ?_)
  refine lv_aload_n hx hb dX0_differencesFrom_12 rfl (lv_at hl 1 rfl) ?_
  refine va_get (D := D) (ci := 0) (v := .int (iI ((ln : Nat) : Int))) (C := RX0) (T := TX0) (N := 11) hx hb hts nX0_differencesFrom_X0 hown hK hP 0 rfl rfl 5 (by decide) (hts _ kX0_differencesFrom_71) (fun _ h9 => h9) rfl dX0_differencesFrom_13 ?_
  refine lv_aload_n hx hb dX0_differencesFrom_16 rfl (lv_at hl 2 rfl) ?_
  refine va_get (D := D) (ci := 0) (v := .int (iI ((lnz : Nat) : Int))) (C := RX0) (T := TX0) (N := 11) hx hb hts nX0_differencesFrom_X0 hown hK hP 3 rfl rfl 5 (by decide) (hts _ kX0_differencesFrom_71) (fun _ h9 => h9) rfl dX0_differencesFrom_17 ?_
  refine r_isub (v := (((ln : Nat) : Int) - ((lnz : Nat) : Int))) hx hb (rfl) dX0_differencesFrom_20 ?_
  refine r_mabs (v := ((((((ln : Nat) : Int) - ((lnz : Nat) : Int))).natAbs : Nat) : Int)) hx hb (S.2.2.1.trans hl.1.symm) hown (hts _ mlX0_differencesFrom_135) (hts _ msX0_differencesFrom_abs) (hts _ miX0_differencesFrom) (hts _ mcX0_differencesFrom_abs) (Nat.le_of_ble_eq_true rfl) (Nat.le_of_ble_eq_true rfl) (Nat.le_of_ble_eq_true rfl) (Nat.le_of_ble_eq_true rfl) (by first | omega | (have h9 := hco (ix k); have h8 := hcoz (ixz k); omega) | (rw [show k = min ln lnz by omega])) rfl dX0_differencesFrom_21 ?_
  refine lv_istore_n (lv' := [(3, .int (iI ((((((ln : Nat) : Int) - ((lnz : Nat) : Int))).natAbs : Nat) : Int))), (2, .int (iI ((min ln lnz : Nat) : Int))), (0, .ref h), (1, .ref hz)]) hx hb dX0_differencesFrom_24 rfl hl (by decide) rfl (fun ls hl => ?_)
  refine r_iconst hx hb dX0_differencesFrom_25 ?_
  refine lv_istore (lv' := [(4, .int (iI 0)), (3, .int (iI ((((((ln : Nat) : Int) - ((lnz : Nat) : Int))).natAbs : Nat) : Int))), (2, .int (iI ((min ln lnz : Nat) : Int))), (0, .ref h), (1, .ref hz)]) hx hb dX0_differencesFrom_26 hl (by decide) rfl (fun ls hl => ?_)
  have loop_28 : ∀ (n_28 : Nat) (k : Nat), (min ln lnz - k) < n_28 → (k ≤ min ln lnz) → ∀ (ls : Array Slot), lv_has ls 5 [(0, .ref h), (1, .ref hz), (2, .int (iI ((min ln lnz : Nat) : Int))), (3, .int (iI ((((ln : Int) - (lnz : Int)).natAbs + cnt (neb (fun j => co (ix j)) (fun j => coz (ixz j))) k : Nat) : Int))), (4, .int (iI ((k : Nat) : Int)))] → W p l e ({ frames := 2, cells := 0, slots := 0, locals := 42 }) s m ([.ref h, .ref hz] : List Value).toArray below meth c s.heap [] 0 0 (MQ below (QO ((((ln : Int) - (lnz : Int)).natAbs + cnt (neb (fun j => co (ix j)) (fun j => coz (ixz j))) (min ln lnz) : Nat) : Int)) ([.ref h, .ref hz] : List Value).toArray s 0 0 (fun _ => False)) (F0 m 28 ls []) := by
    intro n_28
    induction n_28 with
    | zero => intro k h_meas; exact absurd h_meas (Nat.not_lt_zero _)
    | succ n_28 ih_28 =>
      intro k h_m28 ik ls hl
      refine lv_iload hx hb dX0_differencesFrom_28 (lv_at hl 4 rfl) ?_
      refine lv_iload_n hx hb dX0_differencesFrom_30 rfl (lv_at hl 2 rfl) ?_
      refine r_icmp_ge (tgt := 58) hx hb (by first | omega | (have h9 := hco (ix k); have h8 := hcoz (ixz k); omega) | (rw [show k = min ln lnz by omega])) (by first | omega | (have h9 := hco (ix k); have h8 := hcoz (ixz k); omega) | (rw [show k = min ln lnz by omega])) dX0_differencesFrom_31 (by decide) (fun c_1 => ?_) (fun c_1 => ?_)
      · skip
        refine lv_iload_n hx hb dX0_differencesFrom_58 rfl (lv_at hl 3 rfl) ?_
        exact r_iretO hx hb hr hlocks (by first | omega | (have h9 := hco (ix k); have h8 := hcoz (ixz k); omega) | (rw [show k = min ln lnz by omega])) dX0_differencesFrom_59
      · skip
        refine lv_aload_n hx hb dX0_differencesFrom_34 rfl (lv_at hl 0 rfl) ?_
        refine lv_iload hx hb dX0_differencesFrom_35 (lv_at hl 4 rfl) ?_
        refine callVO (n := 1) (As := [.int (iI ((k : Nat) : Int))]) (rest := []) (wc := [(h, .inr (0, [.ref a1, .ref a2, .ref a3, .int (iI ((tt : Nat) : Int)), .ref a4, .int (iI ((ln : Nat) : Int)), .ref a5, .int (iI ((ed : Nat) : Int)), .int (iI ((es : Nat) : Int)), .int (iI ((ac : Nat) : Int)), .int (iI ((cu : Nat) : Int))])), (a1, .inl (cI, 160, .inl (rN (co)))), (a4, .inl (cI, 60, .inl (rN (ix))))]) S (c_codeAt l D cI cB cZ cO h a1 a2 a3 a4 a5 tt ln ed es ac cu co ix k (by first | assumption | (first | omega | (have h9 := hco (ix k); have h8 := hcoz (ixz k); omega) | (rw [show k = min ln lnz by omega]))) (by first | assumption | (first | omega | (have h9 := hco (ix k); have h8 := hcoz (ixz k); omega) | (rw [show k = min ln lnz by omega]))) (by first | assumption | (first | omega | (have h9 := hco (ix k); have h8 := hcoz (ixz k); omega) | (rw [show k = min ln lnz by omega])))) gX0_differencesFrom_X0_codeAt rfl ⟨rfl, rfl⟩ (by decide +kernel) ⟨Nat.le_of_ble_eq_true rfl, Nat.le_of_ble_eq_true rfl⟩ hE hP [0, 1, 2] rfl 0 0 rfl rfl rfl hl.1 rfl (Nat.le_of_ble_eq_true rfl) dX0_differencesFrom_37 ⟨Nat.le_of_ble_eq_true rfl, Nat.le_of_ble_eq_true rfl⟩ ?_
        refine lv_aload_n hx hb dX0_differencesFrom_40 rfl (lv_at hl 1 rfl) ?_
        refine lv_iload hx hb dX0_differencesFrom_41 (lv_at hl 4 rfl) ?_
        refine callVO (n := 1) (As := [.int (iI ((k : Nat) : Int))]) (rest := [.int (iI ((co (ix k) : Nat) : Int))]) (wc := [(hz, .inr (0, [.ref a1z, .ref a2z, .ref a3z, .int (iI ((ttz : Nat) : Int)), .ref a4z, .int (iI ((lnz : Nat) : Int)), .ref a5z, .int (iI ((edz : Nat) : Int)), .int (iI ((esz : Nat) : Int)), .int (iI ((acz : Nat) : Int)), .int (iI ((cuz : Nat) : Int))])), (a1z, .inl (cI, 160, .inl (rN (coz)))), (a4z, .inl (cI, 60, .inl (rN (ixz))))]) S (c_codeAt l D cI cB cZ cO hz a1z a2z a3z a4z a5z ttz lnz edz esz acz cuz coz ixz k (by first | assumption | (first | omega | (have h9 := hco (ix k); have h8 := hcoz (ixz k); omega) | (rw [show k = min ln lnz by omega]))) (by first | assumption | (first | omega | (have h9 := hco (ix k); have h8 := hcoz (ixz k); omega) | (rw [show k = min ln lnz by omega]))) (by first | assumption | (first | omega | (have h9 := hco (ix k); have h8 := hcoz (ixz k); omega) | (rw [show k = min ln lnz by omega])))) gX0_differencesFrom_X0_codeAt rfl ⟨rfl, rfl⟩ (by decide +kernel) ⟨Nat.le_of_ble_eq_true rfl, Nat.le_of_ble_eq_true rfl⟩ hE hP [3, 4, 5] rfl 0 0 rfl rfl rfl hl.1 rfl (Nat.le_of_ble_eq_true rfl) dX0_differencesFrom_43 ⟨Nat.le_of_ble_eq_true rfl, Nat.le_of_ble_eq_true rfl⟩ ?_
        refine r_icmp_eq (tgt := 52) hx hb (by first | omega | (have h9 := hco (ix k); have h8 := hcoz (ixz k); omega) | (rw [show k = min ln lnz by omega])) (by first | omega | (have h9 := hco (ix k); have h8 := hcoz (ixz k); omega) | (rw [show k = min ln lnz by omega])) dX0_differencesFrom_46 (by decide) (fun c_2 => ?_) (fun c_2 => ?_)
        · skip
          refine lv_iinc (v := iI ((k + 1 : Nat) : Int)) (lv' := [(4, .int (iI ((k + 1 : Nat) : Int))), (0, .ref h), (1, .ref hz), (2, .int (iI ((min ln lnz : Nat) : Int))), (3, .int (iI ((((ln : Int) - (lnz : Int)).natAbs + cnt (neb (fun j => co (ix j)) (fun j => coz (ixz j))) k : Nat) : Int)))]) hx hb dX0_differencesFrom_52 hl (k := 4) rfl ((iI_add _ _).trans (ii (rfl))) (by decide) rfl (fun ls hl => ?_)
          refine lv_goto (tgt := 28) hx hb dX0_differencesFrom_55 (by decide) ?_
          have hl : lv_has ls 5 [(4, .int (iI ((k + 1 : Nat) : Int))), (0, .ref h), (1, .ref hz), (2, .int (iI ((min ln lnz : Nat) : Int))), (3, .int (iI ((((ln : Int) - (lnz : Int)).natAbs + cnt (neb (fun j => co (ix j)) (fun j => coz (ixz j))) (k + 1) : Nat) : Int)))] := lv_chg hl 4 3 rfl (show (((((ln : Int) - (lnz : Int)).natAbs + cnt (neb (fun j => co (ix j)) (fun j => coz (ixz j))) k : Nat) : Int) : Int) = ((((ln : Int) - (lnz : Int)).natAbs + cnt (neb (fun j => co (ix j)) (fun j => coz (ixz j))) (k + 1) : Nat) : Int) from by first | (rw [cnt_t (show neb (fun j => co (ix j)) (fun j => coz (ixz j)) k = true from decide_eq_true (show co (ix k) ≠ coz (ixz k) by omega))]; rfl) | (rw [cnt_f (show ¬ neb (fun j => co (ix j)) (fun j => coz (ixz j)) k = true from fun q => absurd (show co (ix k) = coz (ixz k) by omega) (of_decide_eq_true q))])) rfl
          exact ih_28 (k + 1) (by first | omega | (have h9 := hco (ix k); have h8 := hcoz (ixz k); omega) | (rw [show k = min ln lnz by omega])) (by first | assumption | (first | omega | (have h9 := hco (ix k); have h8 := hcoz (ixz k); omega) | (rw [show k = min ln lnz by omega]))) ls (lv_sub hl [1, 2, 3, 4, 0] rfl)
        · skip
          refine lv_iinc (v := iI (((((ln : Int) - (lnz : Int)).natAbs + cnt (neb (fun j => co (ix j)) (fun j => coz (ixz j))) k) + 1 : Nat) : Int)) (lv' := [(3, .int (iI (((((ln : Int) - (lnz : Int)).natAbs + cnt (neb (fun j => co (ix j)) (fun j => coz (ixz j))) k) + 1 : Nat) : Int))), (0, .ref h), (1, .ref hz), (2, .int (iI ((min ln lnz : Nat) : Int))), (4, .int (iI ((k : Nat) : Int)))]) hx hb dX0_differencesFrom_49 hl (k := 3) rfl ((iI_add _ _).trans (ii (rfl))) (by decide) rfl (fun ls hl => ?_)
          refine lv_iinc (v := iI ((k + 1 : Nat) : Int)) (lv' := [(4, .int (iI ((k + 1 : Nat) : Int))), (3, .int (iI (((((ln : Int) - (lnz : Int)).natAbs + cnt (neb (fun j => co (ix j)) (fun j => coz (ixz j))) k) + 1 : Nat) : Int))), (0, .ref h), (1, .ref hz), (2, .int (iI ((min ln lnz : Nat) : Int)))]) hx hb dX0_differencesFrom_52 hl (k := 4) rfl ((iI_add _ _).trans (ii (rfl))) (by decide) rfl (fun ls hl => ?_)
          refine lv_goto (tgt := 28) hx hb dX0_differencesFrom_55 (by decide) ?_
          have hl : lv_has ls 5 [(4, .int (iI ((k + 1 : Nat) : Int))), (3, .int (iI ((((ln : Int) - (lnz : Int)).natAbs + cnt (neb (fun j => co (ix j)) (fun j => coz (ixz j))) (k + 1) : Nat) : Int))), (0, .ref h), (1, .ref hz), (2, .int (iI ((min ln lnz : Nat) : Int)))] := lv_chg hl 1 3 rfl (show ((((((ln : Int) - (lnz : Int)).natAbs + cnt (neb (fun j => co (ix j)) (fun j => coz (ixz j))) k) + 1 : Nat) : Int) : Int) = ((((ln : Int) - (lnz : Int)).natAbs + cnt (neb (fun j => co (ix j)) (fun j => coz (ixz j))) (k + 1) : Nat) : Int) from by first | (rw [cnt_t (show neb (fun j => co (ix j)) (fun j => coz (ixz j)) k = true from decide_eq_true (show co (ix k) ≠ coz (ixz k) by omega))]; rfl) | (rw [cnt_f (show ¬ neb (fun j => co (ix j)) (fun j => coz (ixz j)) k = true from fun q => absurd (show co (ix k) = coz (ixz k) by omega) (of_decide_eq_true q))])) rfl
          exact ih_28 (k + 1) (by first | omega | (have h9 := hco (ix k); have h8 := hcoz (ixz k); omega) | (rw [show k = min ln lnz by omega])) (by first | assumption | (first | omega | (have h9 := hco (ix k); have h8 := hcoz (ixz k); omega) | (rw [show k = min ln lnz by omega]))) ls (lv_sub hl [2, 3, 4, 1, 0] rfl)
  have hl : lv_has ls 5 [(4, .int (iI 0)), (3, .int (iI ((((ln : Int) - (lnz : Int)).natAbs + cnt (neb (fun j => co (ix j)) (fun j => coz (ixz j))) 0 : Nat) : Int))), (2, .int (iI ((min ln lnz : Nat) : Int))), (0, .ref h), (1, .ref hz)] := lv_chg hl 1 3 rfl (show (((((((ln : Nat) : Int) - ((lnz : Nat) : Int))).natAbs : Nat) : Int) : Int) = ((((ln : Int) - (lnz : Int)).natAbs + cnt (neb (fun j => co (ix j)) (fun j => coz (ixz j))) 0 : Nat) : Int) from by rfl) rfl
  exact loop_28 ((min ln lnz - 0) + 1) 0 (by first | omega | (have h9 := hco (ix k); have h8 := hcoz (ixz k); omega) | (rw [show k = min ln lnz by omega])) (by first | assumption | (first | omega | (have h9 := hco (ix k); have h8 := hcoz (ixz k); omega) | (rw [show k = min ln lnz by omega]))) ls (lv_sub hl [3, 4, 2, 1, 0] rfl)
