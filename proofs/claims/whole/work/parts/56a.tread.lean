theorem kX2_readNumber_14 : Cond.fieldLink RX2 14 "PricedUndo$Script" "signs" "LPricedUndo$Row;" ∈ wsX2_readNumber := List.mem_of_getElem? (i := 1) (by decide +kernel)
theorem nX2_readNumber_X2 : ∀ w ∈ u_ws RX2 TX2 7, w ∈ wsX2_readNumber := in_lay 14 (by decide +kernel)
theorem kX2_readNumber_20 : Cond.fieldLink RX2 20 "PricedUndo$Script" "at" "I" ∈ wsX2_readNumber := List.mem_of_getElem? (i := 2) (by decide +kernel)
set_option maxHeartbeats 4000000 in
set_option maxRecDepth 100000 in
theorem t_readNumber (l : Launch) (D : va_G) (cI cB cZ cO : ClassId) (sz : Nat) (xs : Nat) (xr : Nat) (xra : Nat) (p1 : Nat) (la : Nat) (lt : Nat) (srl : Nat) (sg : Int) (fi : Int) (se : Int) (src : Nat → Nat) (hrl : srl ≤ 80) (hsc : ∀ k, src k < 256) (hp1 : p1 < 65530) : Met l yX2_readNumber wsX2_readNumber ({ frames := 1, cells := 0, slots := 0, locals := 21 }) (va_Pc [.ref xs] (RW D cI cB cZ cO sz [(xs, .inr (2, [.ref xr, .int (iI ((p1 : Nat) : Int)), .int (iI (sg)), .int (iI (fi)), .int (iI (se)), .int (iI ((la : Nat) : Int)), .int (iI ((lt : Nat) : Int))])), (xr, .inr (1, [.ref xra, .int (iI ((srl : Nat) : Int))])), (xra, .inl (cI, 80, .inl (rN (src))))])) (QX D (S := Nat × Int) (fun u => some (.int (iI (u.2)))) (fun u => ((48 ≤ tx src srl (p1) ∧ tx src srl (p1) ≤ 57) → u.1 = nE (tx src srl) p1 ∧ u.2 = ((nV (tx src srl) p1 : Nat) : Int)) ∧ (¬ (48 ≤ tx src srl (p1) ∧ tx src srl (p1) ≤ 57) → u.1 = p1 ∧ u.2 = -9)) (fun u => [(xs, .inr (2, [.ref xr, .int (iI ((u.1 : Nat) : Int)), .int (iI (sg)), .int (iI (fi)), .int (iI (se)), .int (iI ((la : Nat) : Int)), .int (iI ((lt : Nat) : Int))])), (xr, .inr (1, [.ref xra, .int (iI ((srl : Nat) : Int))])), (xra, .inl (cI, 80, .inl (rN (src))))]) (va_A [(xs, .inr (2, [.ref xr, .int (iI ((p1 : Nat) : Int)), .int (iI (sg)), .int (iI (fi)), .int (iI (se)), .int (iI ((la : Nat) : Int)), .int (iI ((lt : Nat) : Int))])), (xr, .inr (1, [.ref xra, .int (iI ((srl : Nat) : Int))])), (xra, .inl (cI, 80, .inl (rN (src))))] sz)) 0 0 (va_A [(xs, .inr (2, [.ref xr, .int (iI ((p1 : Nat) : Int)), .int (iI (sg)), .int (iI (fi)), .int (iI (se)), .int (iI ((la : Nat) : Int)), .int (iI ((lt : Nat) : Int))])), (xr, .inr (1, [.ref xra, .int (iI ((srl : Nat) : Int))])), (xra, .inl (cI, 80, .inl (rN (src))))] sz) := by
  refine startW (cc := cX2_readNumber) (maxL := 2) (ret := (some .int)) (by decide) rfl (Nat.le_of_ble_eq_true rfl) ?_
  intro p e s m below meth c S hr hlocks hE hP A hD hA hS ls hl
  have hx := S.1
  have hb := S.2.1
  have hown := S.2.2.2.1
  have hts := S.2.2.2.2
  have hK := hE.1
  have hl : lv_has ls 2 [(0, .ref xs)] := hl
  have htx := @tx_row src srl (p1)
  have hsp := hsc (p1)
  have htx1 := @tx_row src srl (p1 + 1)
  have hsp1 := hsc (p1 + 1)
  have hne := nE_f (tx src srl) p1
  refine lv_aload_n hx hb dX2_readNumber_0 rfl (lv_at hl 0 rfl) ?_
  refine va_get (D := D) (ci := 2) (v := .ref xr) (C := RX2) (T := TX2) (N := 7) hx hb hts nX2_readNumber_X2 hown hK hP 0 rfl rfl 0 (by decide) (hts _ kX2_readNumber_14) (fun _ h9 => h9) rfl dX2_readNumber_1 ?_
  refine lv_aload_n hx hb dX2_readNumber_4 rfl (lv_at hl 0 rfl) ?_
  refine va_get (D := D) (ci := 2) (v := .int (iI ((p1 : Nat) : Int))) (C := RX2) (T := TX2) (N := 7) hx hb hts nX2_readNumber_X2 hown hK hP 0 rfl rfl 1 (by decide) (hts _ kX2_readNumber_20) (fun _ h9 => h9) rfl dX2_readNumber_5 ?_
  refine callVO (n := 1) (As := [.int (iI ((p1 : Nat) : Int))]) (rest := []) (wc := [(xr, .inr (1, [.ref xra, .int (iI ((srl : Nat) : Int))])), (xra, .inl (cI, 80, .inl (rN (src))))]) S (c_row_codeAt l D cI cB cZ cO xr xra 80 src srl (((p1 : Nat) : Int)) (by first | assumption | (omega)) (by first | assumption | (omega)) (by first | assumption | (omega))) gX2_readNumber_X1_codeAt rfl ⟨rfl, rfl⟩ (by decide +kernel) ⟨Nat.le_of_ble_eq_true rfl, Nat.le_of_ble_eq_true rfl⟩ hE hP [1, 2] rfl 1 0 rfl rfl rfl hl.1 rfl (Nat.le_of_ble_eq_true rfl) dX2_readNumber_8 ⟨Nat.le_of_ble_eq_true rfl, Nat.le_of_ble_eq_true rfl⟩ ?_
  refine callSO (n := 1) (As := [.int (iI (rowAt src srl (((p1 : Nat) : Int))))]) (rest := []) (wc := []) S (t_isDigit l D cI cB cZ cO (rowAt src srl (((p1 : Nat) : Int))) (by first | assumption | (omega))) gX2_readNumber_X2_isDigit rfl ⟨rfl, rfl⟩ (by decide +kernel) ⟨Nat.le_of_ble_eq_true rfl, Nat.le_of_ble_eq_true rfl⟩ hE hP [] rfl rfl hl.1 rfl (Nat.le_of_ble_eq_true rfl) dX2_readNumber_11 ⟨Nat.le_of_ble_eq_true rfl, Nat.le_of_ble_eq_true rfl⟩ ?_
  refine r_ifb_ne (tgt := 20) hx hb dX2_readNumber_14 (by decide) (fun c_1 => ?_) (fun c_1 => ?_)
  · skip
    refine lv_aload_n hx hb dX2_readNumber_20 rfl (lv_at hl 0 rfl) ?_
    refine va_get (D := D) (ci := 2) (v := .ref xr) (C := RX2) (T := TX2) (N := 7) hx hb hts nX2_readNumber_X2 hown hK hP 0 rfl rfl 0 (by decide) (hts _ kX2_readNumber_14) (fun _ h9 => h9) rfl dX2_readNumber_21 ?_
    refine lv_aload_n hx hb dX2_readNumber_24 rfl (lv_at hl 0 rfl) ?_
    refine va_get (D := D) (ci := 2) (v := .int (iI ((p1 : Nat) : Int))) (C := RX2) (T := TX2) (N := 7) hx hb hts nX2_readNumber_X2 hown hK hP 0 rfl rfl 1 (by decide) (hts _ kX2_readNumber_20) (fun _ h9 => h9) rfl dX2_readNumber_25 ?_
    refine callVO (n := 1) (As := [.int (iI ((p1 : Nat) : Int))]) (rest := []) (wc := [(xr, .inr (1, [.ref xra, .int (iI ((srl : Nat) : Int))])), (xra, .inl (cI, 80, .inl (rN (src))))]) S (c_row_codeAt l D cI cB cZ cO xr xra 80 src srl (((p1 : Nat) : Int)) (by first | assumption | (omega)) (by first | assumption | (omega)) (by first | assumption | (omega))) gX2_readNumber_X1_codeAt rfl ⟨rfl, rfl⟩ (by decide +kernel) ⟨Nat.le_of_ble_eq_true rfl, Nat.le_of_ble_eq_true rfl⟩ hE hP [1, 2] rfl 1 0 rfl rfl rfl hl.1 rfl (Nat.le_of_ble_eq_true rfl) dX2_readNumber_28 ⟨Nat.le_of_ble_eq_true rfl, Nat.le_of_ble_eq_true rfl⟩ ?_
    refine r_bipush hx hb dX2_readNumber_31 (by decide) ?_
    refine r_isub (v := ((rowAt src srl (((p1 : Nat) : Int))) - 48)) hx hb (rfl) dX2_readNumber_33 ?_
    refine lv_istore_n (lv' := [(1, .int (iI ((rowAt src srl (((p1 : Nat) : Int))) - 48))), (0, .ref xs)]) hx hb dX2_readNumber_34 rfl hl (by decide) rfl (fun ls hl => ?_)
    refine lv_aload_n hx hb dX2_readNumber_35 rfl (lv_at hl 1 rfl) ?_
    refine lv_dup hx hb dX2_readNumber_36 rfl ?_
    refine va_get (D := D) (ci := 2) (v := .int (iI ((p1 : Nat) : Int))) (C := RX2) (T := TX2) (N := 7) hx hb hts nX2_readNumber_X2 hown hK hP 0 rfl rfl 1 (by decide) (hts _ kX2_readNumber_20) (fun _ h9 => h9) rfl dX2_readNumber_37 ?_
    refine r_iconst hx hb dX2_readNumber_40 ?_
    refine r_iadd (v := ((p1 + 1 : Nat) : Int)) hx hb (rfl) dX2_readNumber_41 ?_
    refine va_put (D := D) (ci := 2) (v := .int (iI ((p1 + 1 : Nat) : Int))) (ty := .int) (C := RX2) (T := TX2) (N := 7) hx hb hts nX2_readNumber_X2 tyX2 tyX2_ok nmX2 hown hK hP hD hS 0 rfl rfl 1 (by decide) (hts _ kX2_readNumber_20) (fun _ h9 => h9) rfl (by decide +kernel) rfl rfl (Nat.le_of_ble_eq_true rfl) dX2_readNumber_42 (fun H locs hP hD hS => ?_)
    have hP : va_P D vwCl [(xs, .inr (2, [.ref xr, .int (iI ((p1 + 1 : Nat) : Int)), .int (iI (sg)), .int (iI (fi)), .int (iI (se)), .int (iI ((la : Nat) : Int)), .int (iI ((lt : Nat) : Int))])), (xr, .inr (1, [.ref xra, .int (iI ((srl : Nat) : Int))])), (xra, .inl (cI, 80, .inl (rN (src))))] H := hP
    have hD : va_D A [(xs, .inr (2, [.ref xr, .int (iI ((p1 + 1 : Nat) : Int)), .int (iI (sg)), .int (iI (fi)), .int (iI (se)), .int (iI ((la : Nat) : Int)), .int (iI ((lt : Nat) : Int))])), (xr, .inr (1, [.ref xra, .int (iI ((srl : Nat) : Int))])), (xra, .inl (cI, 80, .inl (rN (src))))] := hD
    refine lv_iload_n hx hb dX2_readNumber_45 rfl (lv_at hl 0 rfl) ?_
    refine r_if_le (tgt := 96) hx hb (by omega) dX2_readNumber_46 (by decide) (fun c_2 => ?_) (fun c_2 => ?_)
    · skip
      refine lv_iload_n hx hb dX2_readNumber_96 rfl (lv_at hl 0 rfl) ?_
      exact r_iretX hx hb hr hlocks hP hD hS (p1 + 1, ((rowAt src srl (((p1 : Nat) : Int))) - 48)) (rfl) (⟨by (try dsimp only); omega, by (try dsimp only); omega⟩) rfl dX2_readNumber_97
    · skip
      refine lv_aload_n hx hb dX2_readNumber_49 rfl (lv_at hl 1 rfl) ?_
      refine va_get (D := D) (ci := 2) (v := .ref xr) (C := RX2) (T := TX2) (N := 7) hx hb hts nX2_readNumber_X2 hown hK hP 0 rfl rfl 0 (by decide) (hts _ kX2_readNumber_14) (fun _ h9 => h9) rfl dX2_readNumber_50 ?_
      refine lv_aload_n hx hb dX2_readNumber_53 rfl (lv_at hl 1 rfl) ?_
      refine va_get (D := D) (ci := 2) (v := .int (iI ((p1 + 1 : Nat) : Int))) (C := RX2) (T := TX2) (N := 7) hx hb hts nX2_readNumber_X2 hown hK hP 0 rfl rfl 1 (by decide) (hts _ kX2_readNumber_20) (fun _ h9 => h9) rfl dX2_readNumber_54 ?_
      refine callVO (n := 1) (As := [.int (iI ((p1 + 1 : Nat) : Int))]) (rest := []) (wc := [(xr, .inr (1, [.ref xra, .int (iI ((srl : Nat) : Int))])), (xra, .inl (cI, 80, .inl (rN (src))))]) S (c_row_codeAt l D cI cB cZ cO xr xra 80 src srl (((p1 + 1 : Nat) : Int)) (by first | assumption | (omega)) (by first | assumption | (omega)) (by first | assumption | (omega))) gX2_readNumber_X1_codeAt rfl ⟨rfl, rfl⟩ (by decide +kernel) ⟨Nat.le_of_ble_eq_true rfl, Nat.le_of_ble_eq_true rfl⟩ hE hP [1, 2] rfl 1 0 rfl rfl rfl hl.1 rfl (Nat.le_of_ble_eq_true rfl) dX2_readNumber_57 ⟨Nat.le_of_ble_eq_true rfl, Nat.le_of_ble_eq_true rfl⟩ ?_
      refine callSO (n := 1) (As := [.int (iI (rowAt src srl (((p1 + 1 : Nat) : Int))))]) (rest := []) (wc := []) S (t_isDigit l D cI cB cZ cO (rowAt src srl (((p1 + 1 : Nat) : Int))) (by first | assumption | (omega))) gX2_readNumber_X2_isDigit rfl ⟨rfl, rfl⟩ (by decide +kernel) ⟨Nat.le_of_ble_eq_true rfl, Nat.le_of_ble_eq_true rfl⟩ hE hP [] rfl rfl hl.1 rfl (Nat.le_of_ble_eq_true rfl) dX2_readNumber_60 ⟨Nat.le_of_ble_eq_true rfl, Nat.le_of_ble_eq_true rfl⟩ ?_
      refine r_ifb_eq (tgt := 96) hx hb dX2_readNumber_63 (by decide) (fun c_3 => ?_) (fun c_3 => ?_)
      · skip
        refine lv_iload_n hx hb dX2_readNumber_96 rfl (lv_at hl 0 rfl) ?_
        exact r_iretX hx hb hr hlocks hP hD hS (p1 + 1, ((rowAt src srl (((p1 : Nat) : Int))) - 48)) (rfl) (⟨by (try dsimp only); omega, by (try dsimp only); omega⟩) rfl dX2_readNumber_97
      · skip
        refine lv_iload_n hx hb dX2_readNumber_66 rfl (lv_at hl 0 rfl) ?_
        refine r_bipush hx hb dX2_readNumber_67 (by decide) ?_
        refine r_imul (v := (((rowAt src srl (((p1 : Nat) : Int))) - 48) * 10)) hx hb (rfl) dX2_readNumber_69 ?_
        refine lv_aload_n hx hb dX2_readNumber_70 rfl (lv_at hl 1 rfl) ?_
        refine va_get (D := D) (ci := 2) (v := .ref xr) (C := RX2) (T := TX2) (N := 7) hx hb hts nX2_readNumber_X2 hown hK hP 0 rfl rfl 0 (by decide) (hts _ kX2_readNumber_14) (fun _ h9 => h9) rfl dX2_readNumber_71 ?_
        refine lv_aload_n hx hb dX2_readNumber_74 rfl (lv_at hl 1 rfl) ?_
        refine va_get (D := D) (ci := 2) (v := .int (iI ((p1 + 1 : Nat) : Int))) (C := RX2) (T := TX2) (N := 7) hx hb hts nX2_readNumber_X2 hown hK hP 0 rfl rfl 1 (by decide) (hts _ kX2_readNumber_20) (fun _ h9 => h9) rfl dX2_readNumber_75 ?_
        refine callVO (n := 1) (As := [.int (iI ((p1 + 1 : Nat) : Int))]) (rest := [.int (iI (((rowAt src srl (((p1 : Nat) : Int))) - 48) * 10))]) (wc := [(xr, .inr (1, [.ref xra, .int (iI ((srl : Nat) : Int))])), (xra, .inl (cI, 80, .inl (rN (src))))]) S (c_row_codeAt l D cI cB cZ cO xr xra 80 src srl (((p1 + 1 : Nat) : Int)) (by first | assumption | (omega)) (by first | assumption | (omega)) (by first | assumption | (omega))) gX2_readNumber_X1_codeAt rfl ⟨rfl, rfl⟩ (by decide +kernel) ⟨Nat.le_of_ble_eq_true rfl, Nat.le_of_ble_eq_true rfl⟩ hE hP [1, 2] rfl 1 0 rfl rfl rfl hl.1 rfl (Nat.le_of_ble_eq_true rfl) dX2_readNumber_78 ⟨Nat.le_of_ble_eq_true rfl, Nat.le_of_ble_eq_true rfl⟩ ?_
        refine r_iadd (v := ((((rowAt src srl (((p1 : Nat) : Int))) - 48) * 10) + (rowAt src srl (((p1 + 1 : Nat) : Int))))) hx hb (rfl) dX2_readNumber_81 ?_
        refine r_bipush hx hb dX2_readNumber_82 (by decide) ?_
        refine r_isub (v := (((((rowAt src srl (((p1 : Nat) : Int))) - 48) * 10) + (rowAt src srl (((p1 + 1 : Nat) : Int)))) - 48)) hx hb (rfl) dX2_readNumber_84 ?_
        refine lv_istore_n (lv' := [(1, .int (iI (((((rowAt src srl (((p1 : Nat) : Int))) - 48) * 10) + (rowAt src srl (((p1 + 1 : Nat) : Int)))) - 48))), (0, .ref xs)]) hx hb dX2_readNumber_85 rfl hl (by decide) rfl (fun ls hl => ?_)
        refine lv_aload_n hx hb dX2_readNumber_86 rfl (lv_at hl 1 rfl) ?_
        refine lv_dup hx hb dX2_readNumber_87 rfl ?_
        refine va_get (D := D) (ci := 2) (v := .int (iI ((p1 + 1 : Nat) : Int))) (C := RX2) (T := TX2) (N := 7) hx hb hts nX2_readNumber_X2 hown hK hP 0 rfl rfl 1 (by decide) (hts _ kX2_readNumber_20) (fun _ h9 => h9) rfl dX2_readNumber_88 ?_
        refine r_iconst hx hb dX2_readNumber_91 ?_
        refine r_iadd (v := ((p1 + 2 : Nat) : Int)) hx hb (by omega) dX2_readNumber_92 ?_
        refine va_put (D := D) (ci := 2) (v := .int (iI ((p1 + 2 : Nat) : Int))) (ty := .int) (C := RX2) (T := TX2) (N := 7) hx hb hts nX2_readNumber_X2 tyX2 tyX2_ok nmX2 hown hK hP hD hS 0 rfl rfl 1 (by decide) (hts _ kX2_readNumber_20) (fun _ h9 => h9) rfl (by decide +kernel) rfl rfl (Nat.le_of_ble_eq_true rfl) dX2_readNumber_93 (fun H locs hP hD hS => ?_)
        have hP : va_P D vwCl [(xs, .inr (2, [.ref xr, .int (iI ((p1 + 2 : Nat) : Int)), .int (iI (sg)), .int (iI (fi)), .int (iI (se)), .int (iI ((la : Nat) : Int)), .int (iI ((lt : Nat) : Int))])), (xr, .inr (1, [.ref xra, .int (iI ((srl : Nat) : Int))])), (xra, .inl (cI, 80, .inl (rN (src))))] H := hP
        have hD : va_D A [(xs, .inr (2, [.ref xr, .int (iI ((p1 + 2 : Nat) : Int)), .int (iI (sg)), .int (iI (fi)), .int (iI (se)), .int (iI ((la : Nat) : Int)), .int (iI ((lt : Nat) : Int))])), (xr, .inr (1, [.ref xra, .int (iI ((srl : Nat) : Int))])), (xra, .inl (cI, 80, .inl (rN (src))))] := hD
        refine lv_iload_n hx hb dX2_readNumber_96 rfl (lv_at hl 0 rfl) ?_
        exact r_iretX hx hb hr hlocks hP hD hS (p1 + 2, (((((rowAt src srl (((p1 : Nat) : Int))) - 48) * 10) + (rowAt src srl (((p1 + 1 : Nat) : Int)))) - 48)) (rfl) (⟨by (try dsimp only); omega, by (try dsimp only); omega⟩) rfl dX2_readNumber_97
  · skip
    refine r_bipush hx hb dX2_readNumber_17 (by decide) ?_
    exact r_iretX hx hb hr hlocks hP hD hS (p1, -9) (rfl) (⟨by (try dsimp only); omega, by (try dsimp only); omega⟩) rfl dX2_readNumber_19

theorem kX2_readLetters_20 : Cond.fieldLink RX2 20 "PricedUndo$Script" "at" "I" ∈ wsX2_readLetters := List.mem_of_getElem? (i := 1) (by decide +kernel)
theorem nX2_readLetters_X2 : ∀ w ∈ u_ws RX2 TX2 7, w ∈ wsX2_readLetters := in_lay 16 (by decide +kernel)
theorem kX2_readLetters_71 : Cond.fieldLink RX2 71 "PricedUndo$Script" "lettersAt" "I" ∈ wsX2_readLetters := List.mem_of_getElem? (i := 2) (by decide +kernel)
theorem kX2_readLetters_74 : Cond.fieldLink RX2 74 "PricedUndo$Script" "letters" "I" ∈ wsX2_readLetters := List.mem_of_getElem? (i := 3) (by decide +kernel)
theorem kX2_readLetters_14 : Cond.fieldLink RX2 14 "PricedUndo$Script" "signs" "LPricedUndo$Row;" ∈ wsX2_readLetters := List.mem_of_getElem? (i := 4) (by decide +kernel)
set_option maxHeartbeats 4000000 in
set_option maxRecDepth 100000 in
theorem t_readLetters (l : Launch) (D : va_G) (cI cB cZ cO : ClassId) (sz : Nat) (xs : Nat) (xr : Nat) (xra : Nat) (p1 : Nat) (la : Nat) (lt : Nat) (srl : Nat) (sg : Int) (fi : Int) (se : Int) (src : Nat → Nat) (hrl : srl ≤ 80) (hsc : ∀ k, src k < 256) (hp1 : p1 < 65530) : Met l yX2_readLetters wsX2_readLetters ({ frames := 1, cells := 0, slots := 0, locals := 21 }) (va_Pc [.ref xs] (RW D cI cB cZ cO sz [(xs, .inr (2, [.ref xr, .int (iI ((p1 : Nat) : Int)), .int (iI (sg)), .int (iI (fi)), .int (iI (se)), .int (iI ((la : Nat) : Int)), .int (iI ((lt : Nat) : Int))])), (xr, .inr (1, [.ref xra, .int (iI ((srl : Nat) : Int))])), (xra, .inl (cI, 80, .inl (rN (src))))])) (QX D (S := Unit) (fun u => some (.int (iI (bI (¬ lts (tx src srl) p1 = 0))))) (fun u => True) (fun u => [(xs, .inr (2, [.ref xr, .int (iI ((p1 + lts (tx src srl) p1 : Nat) : Int)), .int (iI (sg)), .int (iI (fi)), .int (iI (se)), .int (iI ((p1 : Nat) : Int)), .int (iI ((lts (tx src srl) p1 : Nat) : Int))])), (xr, .inr (1, [.ref xra, .int (iI ((srl : Nat) : Int))])), (xra, .inl (cI, 80, .inl (rN (src))))]) (va_A [(xs, .inr (2, [.ref xr, .int (iI ((p1 : Nat) : Int)), .int (iI (sg)), .int (iI (fi)), .int (iI (se)), .int (iI ((la : Nat) : Int)), .int (iI ((lt : Nat) : Int))])), (xr, .inr (1, [.ref xra, .int (iI ((srl : Nat) : Int))])), (xra, .inl (cI, 80, .inl (rN (src))))] sz)) 0 0 (va_A [(xs, .inr (2, [.ref xr, .int (iI ((p1 : Nat) : Int)), .int (iI (sg)), .int (iI (fi)), .int (iI (se)), .int (iI ((la : Nat) : Int)), .int (iI ((lt : Nat) : Int))])), (xr, .inr (1, [.ref xra, .int (iI ((srl : Nat) : Int))])), (xra, .inl (cI, 80, .inl (rN (src))))] sz) := by
  refine startW (cc := cX2_readLetters) (maxL := 1) (ret := (some .boolean)) (by decide) rfl (Nat.le_of_ble_eq_true rfl) ?_
  intro p e s m below meth c S hr hlocks hE hP A hD hA hS ls hl
  have hx := S.1
  have hb := S.2.1
  have hown := S.2.2.2.1
  have hts := S.2.2.2.2
  have hK := hE.1
  have hl : lv_has ls 1 [(0, .ref xs)] := hl
  have hll := lts_le (tx src srl) p1
  refine lv_aload_n hx hb dX2_readLetters_0 rfl (lv_at hl 0 rfl) ?_
  refine lv_aload_n hx hb dX2_readLetters_1 rfl (lv_at hl 0 rfl) ?_
  refine va_get (D := D) (ci := 2) (v := .int (iI ((p1 : Nat) : Int))) (C := RX2) (T := TX2) (N := 7) hx hb hts nX2_readLetters_X2 hown hK hP 0 rfl rfl 1 (by decide) (hts _ kX2_readLetters_20) (fun _ h9 => h9) rfl dX2_readLetters_2 ?_
  refine va_put (D := D) (ci := 2) (v := .int (iI ((p1 : Nat) : Int))) (ty := .int) (C := RX2) (T := TX2) (N := 7) hx hb hts nX2_readLetters_X2 tyX2 tyX2_ok nmX2 hown hK hP hD hS 0 rfl rfl 5 (by decide) (hts _ kX2_readLetters_71) (fun _ h9 => h9) rfl (by decide +kernel) rfl rfl (Nat.le_of_ble_eq_true rfl) dX2_readLetters_5 (fun H locs hP hD hS => ?_)
  have hP : va_P D vwCl [(xs, .inr (2, [.ref xr, .int (iI ((p1 : Nat) : Int)), .int (iI (sg)), .int (iI (fi)), .int (iI (se)), .int (iI ((p1 : Nat) : Int)), .int (iI ((lt : Nat) : Int))])), (xr, .inr (1, [.ref xra, .int (iI ((srl : Nat) : Int))])), (xra, .inl (cI, 80, .inl (rN (src))))] H := hP
  have hD : va_D A [(xs, .inr (2, [.ref xr, .int (iI ((p1 : Nat) : Int)), .int (iI (sg)), .int (iI (fi)), .int (iI (se)), .int (iI ((p1 : Nat) : Int)), .int (iI ((lt : Nat) : Int))])), (xr, .inr (1, [.ref xra, .int (iI ((srl : Nat) : Int))])), (xra, .inl (cI, 80, .inl (rN (src))))] := hD
  refine lv_aload_n hx hb dX2_readLetters_8 rfl (lv_at hl 0 rfl) ?_
  refine r_iconst hx hb dX2_readLetters_9 ?_
  refine va_put (D := D) (ci := 2) (v := .int (iI 0)) (ty := .int) (C := RX2) (T := TX2) (N := 7) hx hb hts nX2_readLetters_X2 tyX2 tyX2_ok nmX2 hown hK hP hD hS 0 rfl rfl 6 (by decide) (hts _ kX2_readLetters_74) (fun _ h9 => h9) rfl (by decide +kernel) rfl rfl (Nat.le_of_ble_eq_true rfl) dX2_readLetters_10 (fun H locs hP hD hS => ?_)
  have hP : va_P D vwCl [(xs, .inr (2, [.ref xr, .int (iI ((p1 : Nat) : Int)), .int (iI (sg)), .int (iI (fi)), .int (iI (se)), .int (iI ((p1 : Nat) : Int)), .int (iI 0)])), (xr, .inr (1, [.ref xra, .int (iI ((srl : Nat) : Int))])), (xra, .inl (cI, 80, .inl (rN (src))))] H := hP
  have hD : va_D A [(xs, .inr (2, [.ref xr, .int (iI ((p1 : Nat) : Int)), .int (iI (sg)), .int (iI (fi)), .int (iI (se)), .int (iI ((p1 : Nat) : Int)), .int (iI 0)])), (xr, .inr (1, [.ref xra, .int (iI ((srl : Nat) : Int))])), (xra, .inl (cI, 80, .inl (rN (src))))] := hD
  have loop_13 : ∀ (n_13 : Nat) (d : Nat), (8 - d) < n_13 → (∀ j, j < d → 97 ≤ tx src srl (p1 + j) ∧ tx src srl (p1 + j) ≤ 122) → (d ≤ 8) → ∀ (H : Heap) (locs : List Loc), va_P D vwCl [(xs, .inr (2, [.ref xr, .int (iI ((p1 + d : Nat) : Int)), .int (iI (sg)), .int (iI (fi)), .int (iI (se)), .int (iI ((p1 : Nat) : Int)), .int (iI ((d : Nat) : Int))])), (xr, .inr (1, [.ref xra, .int (iI ((srl : Nat) : Int))])), (xra, .inl (cI, 80, .inl (rN (src))))] H → va_D A [(xs, .inr (2, [.ref xr, .int (iI ((p1 + d : Nat) : Int)), .int (iI (sg)), .int (iI (fi)), .int (iI (se)), .int (iI ((p1 : Nat) : Int)), .int (iI ((d : Nat) : Int))])), (xr, .inr (1, [.ref xra, .int (iI ((srl : Nat) : Int))])), (xra, .inl (cI, 80, .inl (rN (src))))] → va_S A s.heap H locs → ∀ (ls : Array Slot), lv_has ls 1 [(0, .ref xs)] → W p l e ({ frames := 1, cells := 0, slots := 0, locals := 21 }) s m ([.ref xs] : List Value).toArray below meth c H locs 0 0 (MQ below (QX D (S := Unit) (fun u => some (.int (iI (bI (¬ lts (tx src srl) p1 = 0))))) (fun u => True) (fun u => [(xs, .inr (2, [.ref xr, .int (iI ((p1 + lts (tx src srl) p1 : Nat) : Int)), .int (iI (sg)), .int (iI (fi)), .int (iI (se)), .int (iI ((p1 : Nat) : Int)), .int (iI ((lts (tx src srl) p1 : Nat) : Int))])), (xr, .inr (1, [.ref xra, .int (iI ((srl : Nat) : Int))])), (xra, .inl (cI, 80, .inl (rN (src))))]) A) ([.ref xs] : List Value).toArray s 0 0 A) (F0 m 13 ls []) := by
    intro n_13
    induction n_13 with
    | zero => intro d h_meas; exact absurd h_meas (Nat.not_lt_zero _)
    | succ n_13 ih_13 =>
      intro d h_m13 il id H locs hP hD hS ls hl
      have htx := @tx_row src srl (p1 + d)
      have hsp := hsc (p1 + d)
      refine lv_aload_n hx hb dX2_readLetters_13 rfl (lv_at hl 0 rfl) ?_
      refine va_get (D := D) (ci := 2) (v := .int (iI ((d : Nat) : Int))) (C := RX2) (T := TX2) (N := 7) hx hb hts nX2_readLetters_X2 hown hK hP 0 rfl rfl 6 (by decide) (hts _ kX2_readLetters_74) (fun _ h9 => h9) rfl dX2_readLetters_14 ?_
      refine r_bipush hx hb dX2_readLetters_17 (by decide) ?_
      refine r_icmp_ge (tgt := 62) hx hb (by omega) (⟨by decide, by decide⟩) dX2_readLetters_19 (by decide) (fun c_1 => ?_) (fun c_1 => ?_)
      · skip
        have hl9 : lts (tx src srl) p1 = d := lts_eq il (by omega) (fun _ => by omega)
        obtain rfl : d = lts (tx src srl) p1 := by omega
        refine lv_aload_n hx hb dX2_readLetters_62 rfl (lv_at hl 0 rfl) ?_
        refine va_get (D := D) (ci := 2) (v := .int (iI ((lts (tx src srl) p1 : Nat) : Int))) (C := RX2) (T := TX2) (N := 7) hx hb hts nX2_readLetters_X2 hown hK hP 0 rfl rfl 6 (by decide) (hts _ kX2_readLetters_74) (fun _ h9 => h9) rfl dX2_readLetters_63 ?_
        refine r_if_le (tgt := 73) hx hb (by omega) dX2_readLetters_66 (by decide) (fun c_2 => ?_) (fun c_2 => ?_)
        · skip
          refine r_iconst hx hb dX2_readLetters_73 ?_
          exact r_zretX hx hb hr hlocks hP hD hS () (congrArg (fun z => some (Value.int (iI z))) (((bI_f (by omega)).symm : 0 = (bI (¬ lts (tx src srl) p1 = 0))).symm)) (trivial) (by rfl) (Or.inl rfl) dX2_readLetters_74
        · skip
          refine r_iconst hx hb dX2_readLetters_69 ?_
          refine lv_goto (tgt := 74) hx hb dX2_readLetters_70 (by decide) ?_
          exact r_zretX hx hb hr hlocks hP hD hS () (congrArg (fun z => some (Value.int (iI z))) (((bI_t (by omega)).symm : 1 = (bI (¬ lts (tx src srl) p1 = 0))).symm)) (trivial) (by rfl) (Or.inr rfl) dX2_readLetters_74
      · skip
        refine lv_aload_n hx hb dX2_readLetters_22 rfl (lv_at hl 0 rfl) ?_
        refine va_get (D := D) (ci := 2) (v := .ref xr) (C := RX2) (T := TX2) (N := 7) hx hb hts nX2_readLetters_X2 hown hK hP 0 rfl rfl 0 (by decide) (hts _ kX2_readLetters_14) (fun _ h9 => h9) rfl dX2_readLetters_23 ?_
        refine lv_aload_n hx hb dX2_readLetters_26 rfl (lv_at hl 0 rfl) ?_
        refine va_get (D := D) (ci := 2) (v := .int (iI ((p1 + d : Nat) : Int))) (C := RX2) (T := TX2) (N := 7) hx hb hts nX2_readLetters_X2 hown hK hP 0 rfl rfl 1 (by decide) (hts _ kX2_readLetters_20) (fun _ h9 => h9) rfl dX2_readLetters_27 ?_
        refine callVO (n := 1) (As := [.int (iI ((p1 + d : Nat) : Int))]) (rest := []) (wc := [(xr, .inr (1, [.ref xra, .int (iI ((srl : Nat) : Int))])), (xra, .inl (cI, 80, .inl (rN (src))))]) S (c_row_codeAt l D cI cB cZ cO xr xra 80 src srl (((p1 + d : Nat) : Int)) (by first | assumption | (omega)) (by first | assumption | (omega)) (by first | assumption | (omega))) gX2_readLetters_X1_codeAt rfl ⟨rfl, rfl⟩ (by decide +kernel) ⟨Nat.le_of_ble_eq_true rfl, Nat.le_of_ble_eq_true rfl⟩ hE hP [1, 2] rfl 1 0 rfl rfl rfl hl.1 rfl (Nat.le_of_ble_eq_true rfl) dX2_readLetters_30 ⟨Nat.le_of_ble_eq_true rfl, Nat.le_of_ble_eq_true rfl⟩ ?_
        refine callSO (n := 1) (As := [.int (iI (rowAt src srl (((p1 + d : Nat) : Int))))]) (rest := []) (wc := []) S (t_isLetter l D cI cB cZ cO (rowAt src srl (((p1 + d : Nat) : Int))) (by first | assumption | (omega))) gX2_readLetters_X2_isLetter rfl ⟨rfl, rfl⟩ (by decide +kernel) ⟨Nat.le_of_ble_eq_true rfl, Nat.le_of_ble_eq_true rfl⟩ hE hP [] rfl rfl hl.1 rfl (Nat.le_of_ble_eq_true rfl) dX2_readLetters_33 ⟨Nat.le_of_ble_eq_true rfl, Nat.le_of_ble_eq_true rfl⟩ ?_
        refine r_ifb_eq (tgt := 62) hx hb dX2_readLetters_36 (by decide) (fun c_3 => ?_) (fun c_3 => ?_)
        · skip
          have hl9 : lts (tx src srl) p1 = d := lts_eq il (by omega) (fun _ => by omega)
          obtain rfl : d = lts (tx src srl) p1 := by omega
          refine lv_aload_n hx hb dX2_readLetters_62 rfl (lv_at hl 0 rfl) ?_
          refine va_get (D := D) (ci := 2) (v := .int (iI ((lts (tx src srl) p1 : Nat) : Int))) (C := RX2) (T := TX2) (N := 7) hx hb hts nX2_readLetters_X2 hown hK hP 0 rfl rfl 6 (by decide) (hts _ kX2_readLetters_74) (fun _ h9 => h9) rfl dX2_readLetters_63 ?_
          refine r_if_le (tgt := 73) hx hb (by omega) dX2_readLetters_66 (by decide) (fun c_4 => ?_) (fun c_4 => ?_)
          · skip
            refine r_iconst hx hb dX2_readLetters_73 ?_
            exact r_zretX hx hb hr hlocks hP hD hS () (congrArg (fun z => some (Value.int (iI z))) (((bI_f (by omega)).symm : 0 = (bI (¬ lts (tx src srl) p1 = 0))).symm)) (trivial) (by rfl) (Or.inl rfl) dX2_readLetters_74
          · skip
            refine r_iconst hx hb dX2_readLetters_69 ?_
            refine lv_goto (tgt := 74) hx hb dX2_readLetters_70 (by decide) ?_
            exact r_zretX hx hb hr hlocks hP hD hS () (congrArg (fun z => some (Value.int (iI z))) (((bI_t (by omega)).symm : 1 = (bI (¬ lts (tx src srl) p1 = 0))).symm)) (trivial) (by rfl) (Or.inr rfl) dX2_readLetters_74
        · skip
          refine lv_aload_n hx hb dX2_readLetters_39 rfl (lv_at hl 0 rfl) ?_
          refine lv_dup hx hb dX2_readLetters_40 rfl ?_
          refine va_get (D := D) (ci := 2) (v := .int (iI ((d : Nat) : Int))) (C := RX2) (T := TX2) (N := 7) hx hb hts nX2_readLetters_X2 hown hK hP 0 rfl rfl 6 (by decide) (hts _ kX2_readLetters_74) (fun _ h9 => h9) rfl dX2_readLetters_41 ?_
          refine r_iconst hx hb dX2_readLetters_44 ?_
          refine r_iadd (v := ((d + 1 : Nat) : Int)) hx hb (rfl) dX2_readLetters_45 ?_
          refine va_put (D := D) (ci := 2) (v := .int (iI ((d + 1 : Nat) : Int))) (ty := .int) (C := RX2) (T := TX2) (N := 7) hx hb hts nX2_readLetters_X2 tyX2 tyX2_ok nmX2 hown hK hP hD hS 0 rfl rfl 6 (by decide) (hts _ kX2_readLetters_74) (fun _ h9 => h9) rfl (by decide +kernel) rfl rfl (Nat.le_of_ble_eq_true rfl) dX2_readLetters_46 (fun H locs hP hD hS => ?_)
          have hP : va_P D vwCl [(xs, .inr (2, [.ref xr, .int (iI ((p1 + d : Nat) : Int)), .int (iI (sg)), .int (iI (fi)), .int (iI (se)), .int (iI ((p1 : Nat) : Int)), .int (iI ((d + 1 : Nat) : Int))])), (xr, .inr (1, [.ref xra, .int (iI ((srl : Nat) : Int))])), (xra, .inl (cI, 80, .inl (rN (src))))] H := hP
          have hD : va_D A [(xs, .inr (2, [.ref xr, .int (iI ((p1 + d : Nat) : Int)), .int (iI (sg)), .int (iI (fi)), .int (iI (se)), .int (iI ((p1 : Nat) : Int)), .int (iI ((d + 1 : Nat) : Int))])), (xr, .inr (1, [.ref xra, .int (iI ((srl : Nat) : Int))])), (xra, .inl (cI, 80, .inl (rN (src))))] := hD
          refine lv_aload_n hx hb dX2_readLetters_49 rfl (lv_at hl 0 rfl) ?_
          refine lv_dup hx hb dX2_readLetters_50 rfl ?_
          refine va_get (D := D) (ci := 2) (v := .int (iI ((p1 + d : Nat) : Int))) (C := RX2) (T := TX2) (N := 7) hx hb hts nX2_readLetters_X2 hown hK hP 0 rfl rfl 1 (by decide) (hts _ kX2_readLetters_20) (fun _ h9 => h9) rfl dX2_readLetters_51 ?_
          refine r_iconst hx hb dX2_readLetters_54 ?_
          refine r_iadd (v := (((p1 + d) + 1 : Nat) : Int)) hx hb (rfl) dX2_readLetters_55 ?_
          refine va_put (D := D) (ci := 2) (v := .int (iI (((p1 + d) + 1 : Nat) : Int))) (ty := .int) (C := RX2) (T := TX2) (N := 7) hx hb hts nX2_readLetters_X2 tyX2 tyX2_ok nmX2 hown hK hP hD hS 0 rfl rfl 1 (by decide) (hts _ kX2_readLetters_20) (fun _ h9 => h9) rfl (by decide +kernel) rfl rfl (Nat.le_of_ble_eq_true rfl) dX2_readLetters_56 (fun H locs hP hD hS => ?_)
          have hP : va_P D vwCl [(xs, .inr (2, [.ref xr, .int (iI (((p1 + d) + 1 : Nat) : Int)), .int (iI (sg)), .int (iI (fi)), .int (iI (se)), .int (iI ((p1 : Nat) : Int)), .int (iI ((d + 1 : Nat) : Int))])), (xr, .inr (1, [.ref xra, .int (iI ((srl : Nat) : Int))])), (xra, .inl (cI, 80, .inl (rN (src))))] H := hP
          have hD : va_D A [(xs, .inr (2, [.ref xr, .int (iI (((p1 + d) + 1 : Nat) : Int)), .int (iI (sg)), .int (iI (fi)), .int (iI (se)), .int (iI ((p1 : Nat) : Int)), .int (iI ((d + 1 : Nat) : Int))])), (xr, .inr (1, [.ref xra, .int (iI ((srl : Nat) : Int))])), (xra, .inl (cI, 80, .inl (rN (src))))] := hD
          refine lv_goto (tgt := 13) hx hb dX2_readLetters_59 (by decide) ?_
          have hww : ([(xs, .inr (2, [.ref xr, .int (iI (((p1 + d) + 1 : Nat) : Int)), .int (iI (sg)), .int (iI (fi)), .int (iI (se)), .int (iI ((p1 : Nat) : Int)), .int (iI ((d + 1 : Nat) : Int))])), (xr, .inr (1, [.ref xra, .int (iI ((srl : Nat) : Int))])), (xra, .inl (cI, 80, .inl (rN (src))))] : va_W) = [(xs, .inr (2, [.ref xr, .int (iI ((p1 + (d + 1) : Nat) : Int)), .int (iI (sg)), .int (iI (fi)), .int (iI (se)), .int (iI ((p1 : Nat) : Int)), .int (iI ((d + 1 : Nat) : Int))])), (xr, .inr (1, [.ref xra, .int (iI ((srl : Nat) : Int))])), (xra, .inl (cI, 80, .inl (rN (src))))] := by rw [Nat.add_assoc _ d 1]
          rw [hww] at hP hD
          exact ih_13 (d + 1) (by omega) (by exact run_s il (by omega)) (by first | assumption | (omega)) H locs hP hD hS ls (lv_sub hl [0] rfl)
  have hww : ([(xs, .inr (2, [.ref xr, .int (iI ((p1 : Nat) : Int)), .int (iI (sg)), .int (iI (fi)), .int (iI (se)), .int (iI ((p1 : Nat) : Int)), .int (iI 0)])), (xr, .inr (1, [.ref xra, .int (iI ((srl : Nat) : Int))])), (xra, .inl (cI, 80, .inl (rN (src))))] : va_W) = [(xs, .inr (2, [.ref xr, .int (iI ((p1 + 0 : Nat) : Int)), .int (iI (sg)), .int (iI (fi)), .int (iI (se)), .int (iI ((p1 : Nat) : Int)), .int (iI 0)])), (xr, .inr (1, [.ref xra, .int (iI ((srl : Nat) : Int))])), (xra, .inl (cI, 80, .inl (rN (src))))] := by rw [Nat.add_zero]
  rw [hww] at hP hD
  exact loop_13 ((8 - 0) + 1) 0 (by omega) (by intro j hj; omega) (by first | assumption | (omega)) H locs hP hD hS ls (lv_sub hl [0] rfl)

theorem kX2_readSecond_64 : Cond.fieldLink RX2 64 "PricedUndo$Script" "second" "I" ∈ wsX2_readSecond := List.mem_of_getElem? (i := 1) (by decide +kernel)
theorem nX2_readSecond_X2 : ∀ w ∈ u_ws RX2 TX2 7, w ∈ wsX2_readSecond := in_lay 19 (by decide +kernel)
set_option maxHeartbeats 4000000 in
set_option maxRecDepth 100000 in
theorem t_readSecond (l : Launch) (D : va_G) (cI cB cZ cO : ClassId) (sz : Nat) (xs : Nat) (xr : Nat) (xra : Nat) (p1 : Nat) (la : Nat) (lt : Nat) (srl : Nat) (sg : Int) (fi : Int) (se : Int) (src : Nat → Nat) (hrl : srl ≤ 80) (hsc : ∀ k, src k < 256) (hp1 : p1 < 65530) : Met l yX2_readSecond wsX2_readSecond ({ frames := 2, cells := 0, slots := 0, locals := 42 }) (va_Pc [.ref xs] (RW D cI cB cZ cO sz [(xs, .inr (2, [.ref xr, .int (iI ((p1 : Nat) : Int)), .int (iI (sg)), .int (iI (fi)), .int (iI (se)), .int (iI ((la : Nat) : Int)), .int (iI ((lt : Nat) : Int))])), (xr, .inr (1, [.ref xra, .int (iI ((srl : Nat) : Int))])), (xra, .inl (cI, 80, .inl (rN (src))))])) (QX D (S := Nat × Int) (fun u => some (.int (iI (bI (48 ≤ tx src srl (p1) ∧ tx src srl (p1) ≤ 57))))) (fun u => ((48 ≤ tx src srl (p1) ∧ tx src srl (p1) ≤ 57) → u.1 = nE (tx src srl) p1 ∧ u.2 = ((nV (tx src srl) p1 : Nat) : Int)) ∧ (¬ (48 ≤ tx src srl (p1) ∧ tx src srl (p1) ≤ 57) → u.1 = p1)) (fun u => [(xs, .inr (2, [.ref xr, .int (iI ((u.1 : Nat) : Int)), .int (iI (sg)), .int (iI (fi)), .int (iI (u.2)), .int (iI ((la : Nat) : Int)), .int (iI ((lt : Nat) : Int))])), (xr, .inr (1, [.ref xra, .int (iI ((srl : Nat) : Int))])), (xra, .inl (cI, 80, .inl (rN (src))))]) (va_A [(xs, .inr (2, [.ref xr, .int (iI ((p1 : Nat) : Int)), .int (iI (sg)), .int (iI (fi)), .int (iI (se)), .int (iI ((la : Nat) : Int)), .int (iI ((lt : Nat) : Int))])), (xr, .inr (1, [.ref xra, .int (iI ((srl : Nat) : Int))])), (xra, .inl (cI, 80, .inl (rN (src))))] sz)) 0 0 (va_A [(xs, .inr (2, [.ref xr, .int (iI ((p1 : Nat) : Int)), .int (iI (sg)), .int (iI (fi)), .int (iI (se)), .int (iI ((la : Nat) : Int)), .int (iI ((lt : Nat) : Int))])), (xr, .inr (1, [.ref xra, .int (iI ((srl : Nat) : Int))])), (xra, .inl (cI, 80, .inl (rN (src))))] sz) := by
  refine startW (cc := cX2_readSecond) (maxL := 1) (ret := (some .boolean)) (by decide) rfl (Nat.le_of_ble_eq_true rfl) ?_
  intro p e s m below meth c S hr hlocks hE hP A hD hA hS ls hl
  have hx := S.1
  have hb := S.2.1
  have hown := S.2.2.2.1
  have hts := S.2.2.2.2
  have hK := hE.1
  have hl : lv_has ls 1 [(0, .ref xs)] := hl
  have hne := nE_f (tx src srl) p1
  refine lv_aload_n hx hb dX2_readSecond_0 rfl (lv_at hl 0 rfl) ?_
  refine lv_aload_n hx hb dX2_readSecond_1 rfl (lv_at hl 0 rfl) ?_
  refine callVX (n := 0) (As := []) (rest := [.ref xs]) (wc := [(xs, .inr (2, [.ref xr, .int (iI ((p1 : Nat) : Int)), .int (iI (sg)), .int (iI (fi)), .int (iI (se)), .int (iI ((la : Nat) : Int)), .int (iI ((lt : Nat) : Int))])), (xr, .inr (1, [.ref xra, .int (iI ((srl : Nat) : Int))])), (xra, .inl (cI, 80, .inl (rN (src))))]) (wr := []) (ws2 := fun u => [(xs, .inr (2, [.ref xr, .int (iI ((u.1 : Nat) : Int)), .int (iI (sg)), .int (iI (fi)), .int (iI (se)), .int (iI ((la : Nat) : Int)), .int (iI ((lt : Nat) : Int))])), (xr, .inr (1, [.ref xra, .int (iI ((srl : Nat) : Int))])), (xra, .inl (cI, 80, .inl (rN (src))))]) S hE hP hD hS hA (t_readNumber l D cI cB cZ cO s.heap.size xs xr xra p1 la lt srl sg fi se src (by first | assumption | (omega)) (by first | assumption | (omega)) (by first | assumption | (omega))) gX2_readSecond_X2_readNumber rfl ⟨rfl, rfl⟩ (by decide +kernel) ⟨Nat.le_of_ble_eq_true rfl, Nat.le_of_ble_eq_true rfl⟩ [0, 1, 2] [] [0, 1, 2] rfl (by decide) rfl (by decide) (by decide) (by decide) (fun u => rfl) 2 0 rfl rfl rfl hl.1 rfl (Nat.le_of_ble_eq_true rfl) dX2_readSecond_2 ⟨Nat.le_of_ble_eq_true rfl, Nat.le_of_ble_eq_true rfl⟩ (fun u u2p H locs hP hD hS => ?_)
  obtain ⟨at2_u2, vn_u2⟩ := u
  obtain ⟨hny_u2, hnn_u2⟩ := u2p
  have hny_u2 : (48 ≤ tx src srl (p1) ∧ tx src srl (p1) ≤ 57) → at2_u2 = nE (tx src srl) p1 ∧ vn_u2 = ((nV (tx src srl) p1 : Nat) : Int) := hny_u2
  have hnn_u2 : ¬ (48 ≤ tx src srl (p1) ∧ tx src srl (p1) ≤ 57) → at2_u2 = p1 ∧ vn_u2 = -9 := hnn_u2
  have hP : va_P D vwCl [(xs, .inr (2, [.ref xr, .int (iI ((at2_u2 : Nat) : Int)), .int (iI (sg)), .int (iI (fi)), .int (iI (se)), .int (iI ((la : Nat) : Int)), .int (iI ((lt : Nat) : Int))])), (xr, .inr (1, [.ref xra, .int (iI ((srl : Nat) : Int))])), (xra, .inl (cI, 80, .inl (rN (src))))] H := hP
  have hD : va_D A [(xs, .inr (2, [.ref xr, .int (iI ((at2_u2 : Nat) : Int)), .int (iI (sg)), .int (iI (fi)), .int (iI (se)), .int (iI ((la : Nat) : Int)), .int (iI ((lt : Nat) : Int))])), (xr, .inr (1, [.ref xra, .int (iI ((srl : Nat) : Int))])), (xra, .inl (cI, 80, .inl (rN (src))))] := hD
  refine W.eq (g2 := F0 m 5 ls [.int (iI (vn_u2)), .ref xs]) rfl ?_
  refine va_put (D := D) (ci := 2) (v := .int (iI (vn_u2))) (ty := .int) (C := RX2) (T := TX2) (N := 7) hx hb hts nX2_readSecond_X2 tyX2 tyX2_ok nmX2 hown hK hP hD hS 0 rfl rfl 4 (by decide) (hts _ kX2_readSecond_64) (fun _ h9 => h9) rfl (by decide +kernel) rfl rfl (Nat.le_of_ble_eq_true rfl) dX2_readSecond_5 (fun H locs hP hD hS => ?_)
  have hP : va_P D vwCl [(xs, .inr (2, [.ref xr, .int (iI ((at2_u2 : Nat) : Int)), .int (iI (sg)), .int (iI (fi)), .int (iI (vn_u2)), .int (iI ((la : Nat) : Int)), .int (iI ((lt : Nat) : Int))])), (xr, .inr (1, [.ref xra, .int (iI ((srl : Nat) : Int))])), (xra, .inl (cI, 80, .inl (rN (src))))] H := hP
  have hD : va_D A [(xs, .inr (2, [.ref xr, .int (iI ((at2_u2 : Nat) : Int)), .int (iI (sg)), .int (iI (fi)), .int (iI (vn_u2)), .int (iI ((la : Nat) : Int)), .int (iI ((lt : Nat) : Int))])), (xr, .inr (1, [.ref xra, .int (iI ((srl : Nat) : Int))])), (xra, .inl (cI, 80, .inl (rN (src))))] := hD
  refine lv_aload_n hx hb dX2_readSecond_8 rfl (lv_at hl 0 rfl) ?_
  refine va_get (D := D) (ci := 2) (v := .int (iI (vn_u2))) (C := RX2) (T := TX2) (N := 7) hx hb hts nX2_readSecond_X2 hown hK hP 0 rfl rfl 4 (by decide) (hts _ kX2_readSecond_64) (fun _ h9 => h9) rfl dX2_readSecond_9 ?_
  refine r_if_lt (tgt := 19) hx hb (by omega) dX2_readSecond_12 (by decide) (fun c_1 => ?_) (fun c_1 => ?_)
  · skip
    refine r_iconst hx hb dX2_readSecond_19 ?_
    exact r_zretX hx hb hr hlocks hP hD hS (at2_u2, vn_u2) (congrArg (fun z => some (Value.int (iI z))) (((bI_f (by omega)).symm : 0 = (bI (48 ≤ tx src srl (p1) ∧ tx src srl (p1) ≤ 57))).symm)) (⟨by (try dsimp only); omega, by (try dsimp only); omega⟩) rfl (Or.inl rfl) dX2_readSecond_20
  · skip
    refine r_iconst hx hb dX2_readSecond_15 ?_
    refine lv_goto (tgt := 20) hx hb dX2_readSecond_16 (by decide) ?_
    exact r_zretX hx hb hr hlocks hP hD hS (at2_u2, vn_u2) (congrArg (fun z => some (Value.int (iI z))) (((bI_t (by omega)).symm : 1 = (bI (48 ≤ tx src srl (p1) ∧ tx src srl (p1) ≤ 57))).symm)) (⟨by (try dsimp only); omega, by (try dsimp only); omega⟩) rfl (Or.inr rfl) dX2_readSecond_20

theorem kX2_readSign_14 : Cond.fieldLink RX2 14 "PricedUndo$Script" "signs" "LPricedUndo$Row;" ∈ wsX2_readSign := List.mem_of_getElem? (i := 1) (by decide +kernel)
theorem nX2_readSign_X2 : ∀ w ∈ u_ws RX2 TX2 7, w ∈ wsX2_readSign := in_lay 16 (by decide +kernel)
theorem kX2_readSign_20 : Cond.fieldLink RX2 20 "PricedUndo$Script" "at" "I" ∈ wsX2_readSign := List.mem_of_getElem? (i := 2) (by decide +kernel)
theorem kX2_readSign_49 : Cond.fieldLink RX2 49 "PricedUndo$Script" "sign" "I" ∈ wsX2_readSign := List.mem_of_getElem? (i := 3) (by decide +kernel)
set_option maxHeartbeats 4000000 in
set_option maxRecDepth 100000 in
theorem t_readSign (l : Launch) (D : va_G) (cI cB cZ cO : ClassId) (sz : Nat) (xs : Nat) (xr : Nat) (xra : Nat) (p1 : Nat) (la : Nat) (lt : Nat) (srl : Nat) (sg : Int) (fi : Int) (se : Int) (src : Nat → Nat) (hrl : srl ≤ 80) (hsc : ∀ k, src k < 256) (hp1 : p1 < srl) : Met l yX2_readSign wsX2_readSign ({ frames := 2, cells := 0, slots := 0, locals := 42 }) (va_Pc [.ref xs] (RW D cI cB cZ cO sz [(xs, .inr (2, [.ref xr, .int (iI ((p1 : Nat) : Int)), .int (iI (sg)), .int (iI (fi)), .int (iI (se)), .int (iI ((la : Nat) : Int)), .int (iI ((lt : Nat) : Int))])), (xr, .inr (1, [.ref xra, .int (iI ((srl : Nat) : Int))])), (xra, .inl (cI, 80, .inl (rN (src))))])) (QX D (S := Nat) (fun u => some (.int (iI (bI (tx src srl p1 = 43 ∨ tx src srl p1 = 45 ∨ tx src srl p1 = 60 ∨ tx src srl p1 = 62 ∨ tx src srl p1 = 64))))) (fun u => ((tx src srl p1 = 43 ∨ tx src srl p1 = 45 ∨ tx src srl p1 = 60 ∨ tx src srl p1 = 62 ∨ tx src srl p1 = 64) → u = p1 + 1) ∧ (¬ (tx src srl p1 = 43 ∨ tx src srl p1 = 45 ∨ tx src srl p1 = 60 ∨ tx src srl p1 = 62 ∨ tx src srl p1 = 64) → u = p1)) (fun u => [(xs, .inr (2, [.ref xr, .int (iI ((u : Nat) : Int)), .int (iI ((tx src srl p1 : Nat) : Int)), .int (iI (fi)), .int (iI (se)), .int (iI ((la : Nat) : Int)), .int (iI ((lt : Nat) : Int))])), (xr, .inr (1, [.ref xra, .int (iI ((srl : Nat) : Int))])), (xra, .inl (cI, 80, .inl (rN (src))))]) (va_A [(xs, .inr (2, [.ref xr, .int (iI ((p1 : Nat) : Int)), .int (iI (sg)), .int (iI (fi)), .int (iI (se)), .int (iI ((la : Nat) : Int)), .int (iI ((lt : Nat) : Int))])), (xr, .inr (1, [.ref xra, .int (iI ((srl : Nat) : Int))])), (xra, .inl (cI, 80, .inl (rN (src))))] sz)) 0 0 (va_A [(xs, .inr (2, [.ref xr, .int (iI ((p1 : Nat) : Int)), .int (iI (sg)), .int (iI (fi)), .int (iI (se)), .int (iI ((la : Nat) : Int)), .int (iI ((lt : Nat) : Int))])), (xr, .inr (1, [.ref xra, .int (iI ((srl : Nat) : Int))])), (xra, .inl (cI, 80, .inl (rN (src))))] sz) := by
  refine startW (cc := cX2_readSign) (maxL := 1) (ret := (some .boolean)) (by decide) rfl (Nat.le_of_ble_eq_true rfl) ?_
  intro p e s m below meth c S hr hlocks hE hP A hD hA hS ls hl
  have hx := S.1
  have hb := S.2.1
  have hown := S.2.2.2.1
  have hts := S.2.2.2.2
  have hK := hE.1
  have hl : lv_has ls 1 [(0, .ref xs)] := hl
  have htx := @tx_row src srl (p1)
  have hsp := hsc (p1)
  refine lv_aload_n hx hb dX2_readSign_0 rfl (lv_at hl 0 rfl) ?_
  refine lv_aload_n hx hb dX2_readSign_1 rfl (lv_at hl 0 rfl) ?_
  refine va_get (D := D) (ci := 2) (v := .ref xr) (C := RX2) (T := TX2) (N := 7) hx hb hts nX2_readSign_X2 hown hK hP 0 rfl rfl 0 (by decide) (hts _ kX2_readSign_14) (fun _ h9 => h9) rfl dX2_readSign_2 ?_
  refine lv_aload_n hx hb dX2_readSign_5 rfl (lv_at hl 0 rfl) ?_
  refine va_get (D := D) (ci := 2) (v := .int (iI ((p1 : Nat) : Int))) (C := RX2) (T := TX2) (N := 7) hx hb hts nX2_readSign_X2 hown hK hP 0 rfl rfl 1 (by decide) (hts _ kX2_readSign_20) (fun _ h9 => h9) rfl dX2_readSign_6 ?_
  refine callVO (n := 1) (As := [.int (iI ((p1 : Nat) : Int))]) (rest := [.ref xs]) (wc := [(xr, .inr (1, [.ref xra, .int (iI ((srl : Nat) : Int))])), (xra, .inl (cI, 80, .inl (rN (src))))]) S (c_row_codeAt l D cI cB cZ cO xr xra 80 src srl (((p1 : Nat) : Int)) (by first | assumption | (omega)) (by first | assumption | (omega)) (by first | assumption | (omega))) gX2_readSign_X1_codeAt rfl ⟨rfl, rfl⟩ (by decide +kernel) ⟨Nat.le_of_ble_eq_true rfl, Nat.le_of_ble_eq_true rfl⟩ hE hP [1, 2] rfl 1 0 rfl rfl rfl hl.1 rfl (Nat.le_of_ble_eq_true rfl) dX2_readSign_9 ⟨Nat.le_of_ble_eq_true rfl, Nat.le_of_ble_eq_true rfl⟩ ?_
  rw [show rowAt src srl ((p1 : Nat) : Int) = ((tx src srl p1 : Nat) : Int) from by omega]
  refine va_put (D := D) (ci := 2) (v := .int (iI ((tx src srl p1 : Nat) : Int))) (ty := .int) (C := RX2) (T := TX2) (N := 7) hx hb hts nX2_readSign_X2 tyX2 tyX2_ok nmX2 hown hK hP hD hS 0 rfl rfl 2 (by decide) (hts _ kX2_readSign_49) (fun _ h9 => h9) rfl (by decide +kernel) rfl rfl (Nat.le_of_ble_eq_true rfl) dX2_readSign_12 (fun H locs hP hD hS => ?_)
  have hP : va_P D vwCl [(xs, .inr (2, [.ref xr, .int (iI ((p1 : Nat) : Int)), .int (iI ((tx src srl p1 : Nat) : Int)), .int (iI (fi)), .int (iI (se)), .int (iI ((la : Nat) : Int)), .int (iI ((lt : Nat) : Int))])), (xr, .inr (1, [.ref xra, .int (iI ((srl : Nat) : Int))])), (xra, .inl (cI, 80, .inl (rN (src))))] H := hP
  have hD : va_D A [(xs, .inr (2, [.ref xr, .int (iI ((p1 : Nat) : Int)), .int (iI ((tx src srl p1 : Nat) : Int)), .int (iI (fi)), .int (iI (se)), .int (iI ((la : Nat) : Int)), .int (iI ((lt : Nat) : Int))])), (xr, .inr (1, [.ref xra, .int (iI ((srl : Nat) : Int))])), (xra, .inl (cI, 80, .inl (rN (src))))] := hD
  refine lv_aload_n hx hb dX2_readSign_15 rfl (lv_at hl 0 rfl) ?_
  refine r_bipush hx hb dX2_readSign_16 (by decide) ?_
  refine callVX (n := 1) (As := [.int (iI 43)]) (rest := []) (wc := [(xs, .inr (2, [.ref xr, .int (iI ((p1 : Nat) : Int)), .int (iI ((tx src srl p1 : Nat) : Int)), .int (iI (fi)), .int (iI (se)), .int (iI ((la : Nat) : Int)), .int (iI ((lt : Nat) : Int))])), (xr, .inr (1, [.ref xra, .int (iI ((srl : Nat) : Int))])), (xra, .inl (cI, 80, .inl (rN (src))))]) (wr := []) (ws2 := fun u => [(xs, .inr (2, [.ref xr, .int (iI ((u : Nat) : Int)), .int (iI ((tx src srl p1 : Nat) : Int)), .int (iI (fi)), .int (iI (se)), .int (iI ((la : Nat) : Int)), .int (iI ((lt : Nat) : Int))])), (xr, .inr (1, [.ref xra, .int (iI ((srl : Nat) : Int))])), (xra, .inl (cI, 80, .inl (rN (src))))]) S hE hP hD hS hA (t_accept l D cI cB cZ cO H.size xs xr xra p1 la lt srl (((tx src srl p1 : Nat) : Int)) fi se src 43 (by first | assumption | (omega)) (by first | assumption | (omega)) (by first | assumption | (omega)) (by first | assumption | (omega))) gX2_readSign_X2_accept rfl ⟨rfl, rfl⟩ (by decide +kernel) ⟨Nat.le_of_ble_eq_true rfl, Nat.le_of_ble_eq_true rfl⟩ [0, 1, 2] [] [0, 1, 2] rfl (by decide) rfl (by decide) (by decide) (by decide) (fun u => rfl) 2 0 rfl rfl rfl hl.1 rfl (Nat.le_of_ble_eq_true rfl) dX2_readSign_18 ⟨Nat.le_of_ble_eq_true rfl, Nat.le_of_ble_eq_true rfl⟩ (fun u u18p H locs hP hD hS => ?_)
  generalize u = at2_u18 at u18p hP hD ⊢
  obtain ⟨hat1_u18, hat0_u18⟩ := u18p
  have hat1_u18 : tx src srl p1 = 43 → at2_u18 = p1 + 1 := hat1_u18
  have hat0_u18 : ¬ tx src srl p1 = 43 → at2_u18 = p1 := hat0_u18
  have hP : va_P D vwCl [(xs, .inr (2, [.ref xr, .int (iI ((at2_u18 : Nat) : Int)), .int (iI ((tx src srl p1 : Nat) : Int)), .int (iI (fi)), .int (iI (se)), .int (iI ((la : Nat) : Int)), .int (iI ((lt : Nat) : Int))])), (xr, .inr (1, [.ref xra, .int (iI ((srl : Nat) : Int))])), (xra, .inl (cI, 80, .inl (rN (src))))] H := hP
  have hD : va_D A [(xs, .inr (2, [.ref xr, .int (iI ((at2_u18 : Nat) : Int)), .int (iI ((tx src srl p1 : Nat) : Int)), .int (iI (fi)), .int (iI (se)), .int (iI ((la : Nat) : Int)), .int (iI ((lt : Nat) : Int))])), (xr, .inr (1, [.ref xra, .int (iI ((srl : Nat) : Int))])), (xra, .inl (cI, 80, .inl (rN (src))))] := hD
  refine W.eq (g2 := F0 m 21 ls [.int (iI (bI (tx src srl p1 = 43)))]) rfl ?_
  refine r_ifb_ne (tgt := 60) hx hb dX2_readSign_21 (by decide) (fun c_1 => ?_) (fun c_1 => ?_)
  · skip
    refine r_iconst hx hb dX2_readSign_60 ?_
    refine lv_goto (tgt := 65) hx hb dX2_readSign_61 (by decide) ?_
    exact r_zretX hx hb hr hlocks hP hD hS (at2_u18) (congrArg (fun z => some (Value.int (iI z))) (((bI_t (by omega)).symm : 1 = (bI (tx src srl p1 = 43 ∨ tx src srl p1 = 45 ∨ tx src srl p1 = 60 ∨ tx src srl p1 = 62 ∨ tx src srl p1 = 64))).symm)) (⟨by omega, by omega⟩) rfl (Or.inr rfl) dX2_readSign_65
  · skip
    obtain rfl : p1 = at2_u18 := by omega
    refine lv_aload_n hx hb dX2_readSign_24 rfl (lv_at hl 0 rfl) ?_
    refine r_bipush hx hb dX2_readSign_25 (by decide) ?_
    refine callVX (n := 1) (As := [.int (iI 45)]) (rest := []) (wc := [(xs, .inr (2, [.ref xr, .int (iI ((p1 : Nat) : Int)), .int (iI ((tx src srl p1 : Nat) : Int)), .int (iI (fi)), .int (iI (se)), .int (iI ((la : Nat) : Int)), .int (iI ((lt : Nat) : Int))])), (xr, .inr (1, [.ref xra, .int (iI ((srl : Nat) : Int))])), (xra, .inl (cI, 80, .inl (rN (src))))]) (wr := []) (ws2 := fun u => [(xs, .inr (2, [.ref xr, .int (iI ((u : Nat) : Int)), .int (iI ((tx src srl p1 : Nat) : Int)), .int (iI (fi)), .int (iI (se)), .int (iI ((la : Nat) : Int)), .int (iI ((lt : Nat) : Int))])), (xr, .inr (1, [.ref xra, .int (iI ((srl : Nat) : Int))])), (xra, .inl (cI, 80, .inl (rN (src))))]) S hE hP hD hS hA (t_accept l D cI cB cZ cO H.size xs xr xra p1 la lt srl ((tx src srl p1 : Nat) : Int) fi se src 45 (by first | assumption | (omega)) (by first | assumption | (omega)) (by first | assumption | (omega)) (by first | assumption | (omega))) gX2_readSign_X2_accept rfl ⟨rfl, rfl⟩ (by decide +kernel) ⟨Nat.le_of_ble_eq_true rfl, Nat.le_of_ble_eq_true rfl⟩ [0, 1, 2] [] [0, 1, 2] rfl (by decide) rfl (by decide) (by decide) (by decide) (fun u => rfl) 2 0 rfl rfl rfl hl.1 rfl (Nat.le_of_ble_eq_true rfl) dX2_readSign_27 ⟨Nat.le_of_ble_eq_true rfl, Nat.le_of_ble_eq_true rfl⟩ (fun u u27p H locs hP hD hS => ?_)
    generalize u = at2_u27 at u27p hP hD ⊢
    obtain ⟨hat1_u27, hat0_u27⟩ := u27p
    have hat1_u27 : tx src srl p1 = 45 → at2_u27 = p1 + 1 := hat1_u27
    have hat0_u27 : ¬ tx src srl p1 = 45 → at2_u27 = p1 := hat0_u27
    have hP : va_P D vwCl [(xs, .inr (2, [.ref xr, .int (iI ((at2_u27 : Nat) : Int)), .int (iI ((tx src srl p1 : Nat) : Int)), .int (iI (fi)), .int (iI (se)), .int (iI ((la : Nat) : Int)), .int (iI ((lt : Nat) : Int))])), (xr, .inr (1, [.ref xra, .int (iI ((srl : Nat) : Int))])), (xra, .inl (cI, 80, .inl (rN (src))))] H := hP
    have hD : va_D A [(xs, .inr (2, [.ref xr, .int (iI ((at2_u27 : Nat) : Int)), .int (iI ((tx src srl p1 : Nat) : Int)), .int (iI (fi)), .int (iI (se)), .int (iI ((la : Nat) : Int)), .int (iI ((lt : Nat) : Int))])), (xr, .inr (1, [.ref xra, .int (iI ((srl : Nat) : Int))])), (xra, .inl (cI, 80, .inl (rN (src))))] := hD
    refine W.eq (g2 := F0 m 30 ls [.int (iI (bI (tx src srl p1 = 45)))]) rfl ?_
    refine r_ifb_ne (tgt := 60) hx hb dX2_readSign_30 (by decide) (fun c_2 => ?_) (fun c_2 => ?_)
    · skip
      refine r_iconst hx hb dX2_readSign_60 ?_
      refine lv_goto (tgt := 65) hx hb dX2_readSign_61 (by decide) ?_
      exact r_zretX hx hb hr hlocks hP hD hS (at2_u27) (congrArg (fun z => some (Value.int (iI z))) (((bI_t (by omega)).symm : 1 = (bI (tx src srl p1 = 43 ∨ tx src srl p1 = 45 ∨ tx src srl p1 = 60 ∨ tx src srl p1 = 62 ∨ tx src srl p1 = 64))).symm)) (⟨by omega, by omega⟩) rfl (Or.inr rfl) dX2_readSign_65
    · skip
      obtain rfl : p1 = at2_u27 := by omega
      refine lv_aload_n hx hb dX2_readSign_33 rfl (lv_at hl 0 rfl) ?_
      refine r_bipush hx hb dX2_readSign_34 (by decide) ?_
      refine callVX (n := 1) (As := [.int (iI 60)]) (rest := []) (wc := [(xs, .inr (2, [.ref xr, .int (iI ((p1 : Nat) : Int)), .int (iI ((tx src srl p1 : Nat) : Int)), .int (iI (fi)), .int (iI (se)), .int (iI ((la : Nat) : Int)), .int (iI ((lt : Nat) : Int))])), (xr, .inr (1, [.ref xra, .int (iI ((srl : Nat) : Int))])), (xra, .inl (cI, 80, .inl (rN (src))))]) (wr := []) (ws2 := fun u => [(xs, .inr (2, [.ref xr, .int (iI ((u : Nat) : Int)), .int (iI ((tx src srl p1 : Nat) : Int)), .int (iI (fi)), .int (iI (se)), .int (iI ((la : Nat) : Int)), .int (iI ((lt : Nat) : Int))])), (xr, .inr (1, [.ref xra, .int (iI ((srl : Nat) : Int))])), (xra, .inl (cI, 80, .inl (rN (src))))]) S hE hP hD hS hA (t_accept l D cI cB cZ cO H.size xs xr xra p1 la lt srl ((tx src srl p1 : Nat) : Int) fi se src 60 (by first | assumption | (omega)) (by first | assumption | (omega)) (by first | assumption | (omega)) (by first | assumption | (omega))) gX2_readSign_X2_accept rfl ⟨rfl, rfl⟩ (by decide +kernel) ⟨Nat.le_of_ble_eq_true rfl, Nat.le_of_ble_eq_true rfl⟩ [0, 1, 2] [] [0, 1, 2] rfl (by decide) rfl (by decide) (by decide) (by decide) (fun u => rfl) 2 0 rfl rfl rfl hl.1 rfl (Nat.le_of_ble_eq_true rfl) dX2_readSign_36 ⟨Nat.le_of_ble_eq_true rfl, Nat.le_of_ble_eq_true rfl⟩ (fun u u36p H locs hP hD hS => ?_)
      generalize u = at2_u36 at u36p hP hD ⊢
      obtain ⟨hat1_u36, hat0_u36⟩ := u36p
      have hat1_u36 : tx src srl p1 = 60 → at2_u36 = p1 + 1 := hat1_u36
      have hat0_u36 : ¬ tx src srl p1 = 60 → at2_u36 = p1 := hat0_u36
      have hP : va_P D vwCl [(xs, .inr (2, [.ref xr, .int (iI ((at2_u36 : Nat) : Int)), .int (iI ((tx src srl p1 : Nat) : Int)), .int (iI (fi)), .int (iI (se)), .int (iI ((la : Nat) : Int)), .int (iI ((lt : Nat) : Int))])), (xr, .inr (1, [.ref xra, .int (iI ((srl : Nat) : Int))])), (xra, .inl (cI, 80, .inl (rN (src))))] H := hP
      have hD : va_D A [(xs, .inr (2, [.ref xr, .int (iI ((at2_u36 : Nat) : Int)), .int (iI ((tx src srl p1 : Nat) : Int)), .int (iI (fi)), .int (iI (se)), .int (iI ((la : Nat) : Int)), .int (iI ((lt : Nat) : Int))])), (xr, .inr (1, [.ref xra, .int (iI ((srl : Nat) : Int))])), (xra, .inl (cI, 80, .inl (rN (src))))] := hD
      refine W.eq (g2 := F0 m 39 ls [.int (iI (bI (tx src srl p1 = 60)))]) rfl ?_
      refine r_ifb_ne (tgt := 60) hx hb dX2_readSign_39 (by decide) (fun c_3 => ?_) (fun c_3 => ?_)
      · skip
        refine r_iconst hx hb dX2_readSign_60 ?_
        refine lv_goto (tgt := 65) hx hb dX2_readSign_61 (by decide) ?_
        exact r_zretX hx hb hr hlocks hP hD hS (at2_u36) (congrArg (fun z => some (Value.int (iI z))) (((bI_t (by omega)).symm : 1 = (bI (tx src srl p1 = 43 ∨ tx src srl p1 = 45 ∨ tx src srl p1 = 60 ∨ tx src srl p1 = 62 ∨ tx src srl p1 = 64))).symm)) (⟨by omega, by omega⟩) rfl (Or.inr rfl) dX2_readSign_65
      · skip
        obtain rfl : p1 = at2_u36 := by omega
        refine lv_aload_n hx hb dX2_readSign_42 rfl (lv_at hl 0 rfl) ?_
        refine r_bipush hx hb dX2_readSign_43 (by decide) ?_
        refine callVX (n := 1) (As := [.int (iI 62)]) (rest := []) (wc := [(xs, .inr (2, [.ref xr, .int (iI ((p1 : Nat) : Int)), .int (iI ((tx src srl p1 : Nat) : Int)), .int (iI (fi)), .int (iI (se)), .int (iI ((la : Nat) : Int)), .int (iI ((lt : Nat) : Int))])), (xr, .inr (1, [.ref xra, .int (iI ((srl : Nat) : Int))])), (xra, .inl (cI, 80, .inl (rN (src))))]) (wr := []) (ws2 := fun u => [(xs, .inr (2, [.ref xr, .int (iI ((u : Nat) : Int)), .int (iI ((tx src srl p1 : Nat) : Int)), .int (iI (fi)), .int (iI (se)), .int (iI ((la : Nat) : Int)), .int (iI ((lt : Nat) : Int))])), (xr, .inr (1, [.ref xra, .int (iI ((srl : Nat) : Int))])), (xra, .inl (cI, 80, .inl (rN (src))))]) S hE hP hD hS hA (t_accept l D cI cB cZ cO H.size xs xr xra p1 la lt srl ((tx src srl p1 : Nat) : Int) fi se src 62 (by first | assumption | (omega)) (by first | assumption | (omega)) (by first | assumption | (omega)) (by first | assumption | (omega))) gX2_readSign_X2_accept rfl ⟨rfl, rfl⟩ (by decide +kernel) ⟨Nat.le_of_ble_eq_true rfl, Nat.le_of_ble_eq_true rfl⟩ [0, 1, 2] [] [0, 1, 2] rfl (by decide) rfl (by decide) (by decide) (by decide) (fun u => rfl) 2 0 rfl rfl rfl hl.1 rfl (Nat.le_of_ble_eq_true rfl) dX2_readSign_45 ⟨Nat.le_of_ble_eq_true rfl, Nat.le_of_ble_eq_true rfl⟩ (fun u u45p H locs hP hD hS => ?_)
        generalize u = at2_u45 at u45p hP hD ⊢
        obtain ⟨hat1_u45, hat0_u45⟩ := u45p
        have hat1_u45 : tx src srl p1 = 62 → at2_u45 = p1 + 1 := hat1_u45
        have hat0_u45 : ¬ tx src srl p1 = 62 → at2_u45 = p1 := hat0_u45
        have hP : va_P D vwCl [(xs, .inr (2, [.ref xr, .int (iI ((at2_u45 : Nat) : Int)), .int (iI ((tx src srl p1 : Nat) : Int)), .int (iI (fi)), .int (iI (se)), .int (iI ((la : Nat) : Int)), .int (iI ((lt : Nat) : Int))])), (xr, .inr (1, [.ref xra, .int (iI ((srl : Nat) : Int))])), (xra, .inl (cI, 80, .inl (rN (src))))] H := hP
        have hD : va_D A [(xs, .inr (2, [.ref xr, .int (iI ((at2_u45 : Nat) : Int)), .int (iI ((tx src srl p1 : Nat) : Int)), .int (iI (fi)), .int (iI (se)), .int (iI ((la : Nat) : Int)), .int (iI ((lt : Nat) : Int))])), (xr, .inr (1, [.ref xra, .int (iI ((srl : Nat) : Int))])), (xra, .inl (cI, 80, .inl (rN (src))))] := hD
        refine W.eq (g2 := F0 m 48 ls [.int (iI (bI (tx src srl p1 = 62)))]) rfl ?_
        refine r_ifb_ne (tgt := 60) hx hb dX2_readSign_48 (by decide) (fun c_4 => ?_) (fun c_4 => ?_)
        · skip
          refine r_iconst hx hb dX2_readSign_60 ?_
          refine lv_goto (tgt := 65) hx hb dX2_readSign_61 (by decide) ?_
          exact r_zretX hx hb hr hlocks hP hD hS (at2_u45) (congrArg (fun z => some (Value.int (iI z))) (((bI_t (by omega)).symm : 1 = (bI (tx src srl p1 = 43 ∨ tx src srl p1 = 45 ∨ tx src srl p1 = 60 ∨ tx src srl p1 = 62 ∨ tx src srl p1 = 64))).symm)) (⟨by omega, by omega⟩) rfl (Or.inr rfl) dX2_readSign_65
        · skip
          obtain rfl : p1 = at2_u45 := by omega
          refine lv_aload_n hx hb dX2_readSign_51 rfl (lv_at hl 0 rfl) ?_
          refine r_bipush hx hb dX2_readSign_52 (by decide) ?_
          refine callVX (n := 1) (As := [.int (iI 64)]) (rest := []) (wc := [(xs, .inr (2, [.ref xr, .int (iI ((p1 : Nat) : Int)), .int (iI ((tx src srl p1 : Nat) : Int)), .int (iI (fi)), .int (iI (se)), .int (iI ((la : Nat) : Int)), .int (iI ((lt : Nat) : Int))])), (xr, .inr (1, [.ref xra, .int (iI ((srl : Nat) : Int))])), (xra, .inl (cI, 80, .inl (rN (src))))]) (wr := []) (ws2 := fun u => [(xs, .inr (2, [.ref xr, .int (iI ((u : Nat) : Int)), .int (iI ((tx src srl p1 : Nat) : Int)), .int (iI (fi)), .int (iI (se)), .int (iI ((la : Nat) : Int)), .int (iI ((lt : Nat) : Int))])), (xr, .inr (1, [.ref xra, .int (iI ((srl : Nat) : Int))])), (xra, .inl (cI, 80, .inl (rN (src))))]) S hE hP hD hS hA (t_accept l D cI cB cZ cO H.size xs xr xra p1 la lt srl ((tx src srl p1 : Nat) : Int) fi se src 64 (by first | assumption | (omega)) (by first | assumption | (omega)) (by first | assumption | (omega)) (by first | assumption | (omega))) gX2_readSign_X2_accept rfl ⟨rfl, rfl⟩ (by decide +kernel) ⟨Nat.le_of_ble_eq_true rfl, Nat.le_of_ble_eq_true rfl⟩ [0, 1, 2] [] [0, 1, 2] rfl (by decide) rfl (by decide) (by decide) (by decide) (fun u => rfl) 2 0 rfl rfl rfl hl.1 rfl (Nat.le_of_ble_eq_true rfl) dX2_readSign_54 ⟨Nat.le_of_ble_eq_true rfl, Nat.le_of_ble_eq_true rfl⟩ (fun u u54p H locs hP hD hS => ?_)
          generalize u = at2_u54 at u54p hP hD ⊢
          obtain ⟨hat1_u54, hat0_u54⟩ := u54p
          have hat1_u54 : tx src srl p1 = 64 → at2_u54 = p1 + 1 := hat1_u54
          have hat0_u54 : ¬ tx src srl p1 = 64 → at2_u54 = p1 := hat0_u54
          have hP : va_P D vwCl [(xs, .inr (2, [.ref xr, .int (iI ((at2_u54 : Nat) : Int)), .int (iI ((tx src srl p1 : Nat) : Int)), .int (iI (fi)), .int (iI (se)), .int (iI ((la : Nat) : Int)), .int (iI ((lt : Nat) : Int))])), (xr, .inr (1, [.ref xra, .int (iI ((srl : Nat) : Int))])), (xra, .inl (cI, 80, .inl (rN (src))))] H := hP
          have hD : va_D A [(xs, .inr (2, [.ref xr, .int (iI ((at2_u54 : Nat) : Int)), .int (iI ((tx src srl p1 : Nat) : Int)), .int (iI (fi)), .int (iI (se)), .int (iI ((la : Nat) : Int)), .int (iI ((lt : Nat) : Int))])), (xr, .inr (1, [.ref xra, .int (iI ((srl : Nat) : Int))])), (xra, .inl (cI, 80, .inl (rN (src))))] := hD
          refine W.eq (g2 := F0 m 57 ls [.int (iI (bI (tx src srl p1 = 64)))]) rfl ?_
          refine r_ifb_eq (tgt := 64) hx hb dX2_readSign_57 (by decide) (fun c_5 => ?_) (fun c_5 => ?_)
          · skip
            refine r_iconst hx hb dX2_readSign_64 ?_
            exact r_zretX hx hb hr hlocks hP hD hS (at2_u54) (congrArg (fun z => some (Value.int (iI z))) (((bI_f (by omega)).symm : 0 = (bI (tx src srl p1 = 43 ∨ tx src srl p1 = 45 ∨ tx src srl p1 = 60 ∨ tx src srl p1 = 62 ∨ tx src srl p1 = 64))).symm)) (⟨by omega, by omega⟩) rfl (Or.inl rfl) dX2_readSign_65
          · skip
            refine r_iconst hx hb dX2_readSign_60 ?_
            refine lv_goto (tgt := 65) hx hb dX2_readSign_61 (by decide) ?_
            exact r_zretX hx hb hr hlocks hP hD hS (at2_u54) (congrArg (fun z => some (Value.int (iI z))) (((bI_t (by omega)).symm : 1 = (bI (tx src srl p1 = 43 ∨ tx src srl p1 = 45 ∨ tx src srl p1 = 60 ∨ tx src srl p1 = 62 ∨ tx src srl p1 = 64))).symm)) (⟨by omega, by omega⟩) rfl (Or.inr rfl) dX2_readSign_65

theorem kX2_readRest_55 : Cond.fieldLink RX2 55 "PricedUndo$Script" "first" "I" ∈ wsX2_readRest := List.mem_of_getElem? (i := 1) (by decide +kernel)
theorem nX2_readRest_X2 : ∀ w ∈ u_ws RX2 TX2 7, w ∈ wsX2_readRest := in_lay 38 (by decide +kernel)
theorem kX2_readRest_49 : Cond.fieldLink RX2 49 "PricedUndo$Script" "sign" "I" ∈ wsX2_readRest := List.mem_of_getElem? (i := 2) (by decide +kernel)
set_option maxHeartbeats 4000000 in
set_option maxRecDepth 100000 in
theorem t_readRest (l : Launch) (D : va_G) (cI cB cZ cO : ClassId) (sz : Nat) (xs : Nat) (xr : Nat) (xra : Nat) (la : Nat) (lt : Nat) (srl : Nat) (fi : Int) (se : Int) (src : Nat → Nat) (pz : Nat) (hrl : srl ≤ 80) (hsc : ∀ k, src k < 256) (hp : pz < 60000) (hsg : tx src srl pz = 43 ∨ tx src srl pz = 45 ∨ tx src srl pz = 60 ∨ tx src srl pz = 62 ∨ tx src srl pz = 64) : Met l yX2_readRest wsX2_readRest ({ frames := 3, cells := 0, slots := 0, locals := 62 }) (va_Pc [.ref xs] (RW D cI cB cZ cO sz [(xs, .inr (2, [.ref xr, .int (iI ((pz + 1 : Nat) : Int)), .int (iI ((tx src srl pz : Nat) : Int)), .int (iI (fi)), .int (iI (se)), .int (iI ((la : Nat) : Int)), .int (iI ((lt : Nat) : Int))])), (xr, .inr (1, [.ref xra, .int (iI ((srl : Nat) : Int))])), (xra, .inl (cI, 80, .inl (rN (src))))])) (QX D (S := Nat × Int × Int × Nat × Nat × Nat) (fun u => some (.int (iI ((u.2.2.2.2.2 : Nat) : Int)))) (fun u => (u.2.2.2.2.2 = 0 → cP (tx src srl) pz = u.1 ∧ cK (tx src srl) pz = 0) ∧ (u.2.2.2.2.2 = 1 → cP (tx src srl) pz = (fnc (tx src srl) u.1).1 ∧ cK (tx src srl) pz = (fnc (tx src srl) u.1).2) ∧ (u.2.2.2.2.2 ≤ 1) ∧ (u.1 ≤ pz + 15) ∧ (u.2.2.2.2.2 = 1 → u.2.1 = ((nV (tx src srl) (pz + 1) : Nat) : Int)) ∧ (u.2.2.2.2.2 = 1 → tx src srl pz = 45 → u.2.2.1 = ((nV (tx src srl) (nE (tx src srl) (pz + 1) + 1) : Nat) : Int)) ∧ (u.2.2.2.2.2 = 1 → tx src srl pz = 43 → u.2.2.2.1 = nE (tx src srl) (pz + 1) + 1 ∧ u.2.2.2.2.1 = lts (tx src srl) (nE (tx src srl) (pz + 1) + 1))) (fun u => [(xs, .inr (2, [.ref xr, .int (iI ((u.1 : Nat) : Int)), .int (iI ((tx src srl pz : Nat) : Int)), .int (iI (u.2.1)), .int (iI (u.2.2.1)), .int (iI ((u.2.2.2.1 : Nat) : Int)), .int (iI ((u.2.2.2.2.1 : Nat) : Int))])), (xr, .inr (1, [.ref xra, .int (iI ((srl : Nat) : Int))])), (xra, .inl (cI, 80, .inl (rN (src))))]) (va_A [(xs, .inr (2, [.ref xr, .int (iI ((pz + 1 : Nat) : Int)), .int (iI ((tx src srl pz : Nat) : Int)), .int (iI (fi)), .int (iI (se)), .int (iI ((la : Nat) : Int)), .int (iI ((lt : Nat) : Int))])), (xr, .inr (1, [.ref xra, .int (iI ((srl : Nat) : Int))])), (xra, .inl (cI, 80, .inl (rN (src))))] sz)) 0 0 (va_A [(xs, .inr (2, [.ref xr, .int (iI ((pz + 1 : Nat) : Int)), .int (iI ((tx src srl pz : Nat) : Int)), .int (iI (fi)), .int (iI (se)), .int (iI ((la : Nat) : Int)), .int (iI ((lt : Nat) : Int))])), (xr, .inr (1, [.ref xra, .int (iI ((srl : Nat) : Int))])), (xra, .inl (cI, 80, .inl (rN (src))))] sz) := by
  refine startW (cc := cX2_readRest) (maxL := 1) (ret := (some .boolean)) (by decide) rfl (Nat.le_of_ble_eq_true rfl) ?_
  intro p e s m below meth c S hr hlocks hE hP A hD hA hS ls hl
  have hx := S.1
  have hb := S.2.1
  have hown := S.2.2.2.1
  have hts := S.2.2.2.2
  have hK := hE.1
  have hl : lv_has ls 1 [(0, .ref xs)] := hl
  have htx := @tx_row src srl (pz)
  have hsp := hsc (pz)
  have htx1 := @tx_row src srl (pz + 1)
  have hsp1 := hsc (pz + 1)
  have hnf := nE_f (tx src srl) (pz + 1)
  have hne := nE_b (tx src srl) (pz + 1)
  have hne2 := nE_b (tx src srl) (nE (tx src srl) (pz + 1) + 1)
  have hll := lts_le (tx src srl) (nE (tx src srl) (pz + 1) + 1)
  refine lv_aload_n hx hb dX2_readRest_0 rfl (lv_at hl 0 rfl) ?_
  refine lv_aload_n hx hb dX2_readRest_1 rfl (lv_at hl 0 rfl) ?_
  refine callVX (n := 0) (As := []) (rest := [.ref xs]) (wc := [(xs, .inr (2, [.ref xr, .int (iI ((pz + 1 : Nat) : Int)), .int (iI ((tx src srl pz : Nat) : Int)), .int (iI (fi)), .int (iI (se)), .int (iI ((la : Nat) : Int)), .int (iI ((lt : Nat) : Int))])), (xr, .inr (1, [.ref xra, .int (iI ((srl : Nat) : Int))])), (xra, .inl (cI, 80, .inl (rN (src))))]) (wr := []) (ws2 := fun u => [(xs, .inr (2, [.ref xr, .int (iI ((u.1 : Nat) : Int)), .int (iI ((tx src srl pz : Nat) : Int)), .int (iI (fi)), .int (iI (se)), .int (iI ((la : Nat) : Int)), .int (iI ((lt : Nat) : Int))])), (xr, .inr (1, [.ref xra, .int (iI ((srl : Nat) : Int))])), (xra, .inl (cI, 80, .inl (rN (src))))]) S hE hP hD hS hA (t_readNumber l D cI cB cZ cO s.heap.size xs xr xra (pz + 1) la lt srl (((tx src srl pz : Nat) : Int)) fi se src (by first | assumption | (omega)) (by first | assumption | (omega)) (by first | assumption | (omega))) gX2_readRest_X2_readNumber rfl ⟨rfl, rfl⟩ (by decide +kernel) ⟨Nat.le_of_ble_eq_true rfl, Nat.le_of_ble_eq_true rfl⟩ [0, 1, 2] [] [0, 1, 2] rfl (by decide) rfl (by decide) (by decide) (by decide) (fun u => rfl) 2 0 rfl rfl rfl hl.1 rfl (Nat.le_of_ble_eq_true rfl) dX2_readRest_2 ⟨Nat.le_of_ble_eq_true rfl, Nat.le_of_ble_eq_true rfl⟩ (fun u u2p H locs hP hD hS => ?_)
  obtain ⟨at2_u2, vn_u2⟩ := u
  obtain ⟨hny_u2, hnn_u2⟩ := u2p
  have hny_u2 : (48 ≤ tx src srl ((pz + 1)) ∧ tx src srl ((pz + 1)) ≤ 57) → at2_u2 = nE (tx src srl) (pz + 1) ∧ vn_u2 = ((nV (tx src srl) (pz + 1) : Nat) : Int) := hny_u2
  have hnn_u2 : ¬ (48 ≤ tx src srl ((pz + 1)) ∧ tx src srl ((pz + 1)) ≤ 57) → at2_u2 = (pz + 1) ∧ vn_u2 = -9 := hnn_u2
  have hP : va_P D vwCl [(xs, .inr (2, [.ref xr, .int (iI ((at2_u2 : Nat) : Int)), .int (iI ((tx src srl pz : Nat) : Int)), .int (iI (fi)), .int (iI (se)), .int (iI ((la : Nat) : Int)), .int (iI ((lt : Nat) : Int))])), (xr, .inr (1, [.ref xra, .int (iI ((srl : Nat) : Int))])), (xra, .inl (cI, 80, .inl (rN (src))))] H := hP
  have hD : va_D A [(xs, .inr (2, [.ref xr, .int (iI ((at2_u2 : Nat) : Int)), .int (iI ((tx src srl pz : Nat) : Int)), .int (iI (fi)), .int (iI (se)), .int (iI ((la : Nat) : Int)), .int (iI ((lt : Nat) : Int))])), (xr, .inr (1, [.ref xra, .int (iI ((srl : Nat) : Int))])), (xra, .inl (cI, 80, .inl (rN (src))))] := hD
  refine W.eq (g2 := F0 m 5 ls [.int (iI (vn_u2)), .ref xs]) rfl ?_
  refine va_put (D := D) (ci := 2) (v := .int (iI (vn_u2))) (ty := .int) (C := RX2) (T := TX2) (N := 7) hx hb hts nX2_readRest_X2 tyX2 tyX2_ok nmX2 hown hK hP hD hS 0 rfl rfl 3 (by decide) (hts _ kX2_readRest_55) (fun _ h9 => h9) rfl (by decide +kernel) rfl rfl (Nat.le_of_ble_eq_true rfl) dX2_readRest_5 (fun H locs hP hD hS => ?_)
  have hP : va_P D vwCl [(xs, .inr (2, [.ref xr, .int (iI ((at2_u2 : Nat) : Int)), .int (iI ((tx src srl pz : Nat) : Int)), .int (iI (vn_u2)), .int (iI (se)), .int (iI ((la : Nat) : Int)), .int (iI ((lt : Nat) : Int))])), (xr, .inr (1, [.ref xra, .int (iI ((srl : Nat) : Int))])), (xra, .inl (cI, 80, .inl (rN (src))))] H := hP
  have hD : va_D A [(xs, .inr (2, [.ref xr, .int (iI ((at2_u2 : Nat) : Int)), .int (iI ((tx src srl pz : Nat) : Int)), .int (iI (vn_u2)), .int (iI (se)), .int (iI ((la : Nat) : Int)), .int (iI ((lt : Nat) : Int))])), (xr, .inr (1, [.ref xra, .int (iI ((srl : Nat) : Int))])), (xra, .inl (cI, 80, .inl (rN (src))))] := hD
  refine lv_aload_n hx hb dX2_readRest_8 rfl (lv_at hl 0 rfl) ?_
  refine va_get (D := D) (ci := 2) (v := .int (iI (vn_u2))) (C := RX2) (T := TX2) (N := 7) hx hb hts nX2_readRest_X2 hown hK hP 0 rfl rfl 3 (by decide) (hts _ kX2_readRest_55) (fun _ h9 => h9) rfl dX2_readRest_9 ?_
  refine r_if_ge (tgt := 17) hx hb (by omega) dX2_readRest_12 (by decide) (fun c_1 => ?_) (fun c_1 => ?_)
  · skip
    have hdg : 48 ≤ tx src srl (pz + 1) ∧ tx src srl (pz + 1) ≤ 57 := by omega
    obtain rfl : at2_u2 = nE (tx src srl) (pz + 1) := by omega
    refine lv_aload_n hx hb dX2_readRest_17 rfl (lv_at hl 0 rfl) ?_
    refine va_get (D := D) (ci := 2) (v := .int (iI ((tx src srl pz : Nat) : Int))) (C := RX2) (T := TX2) (N := 7) hx hb hts nX2_readRest_X2 hown hK hP 0 rfl rfl 2 (by decide) (hts _ kX2_readRest_49) (fun _ h9 => h9) rfl dX2_readRest_18 ?_
    refine r_bipush hx hb dX2_readRest_21 (by decide) ?_
    refine r_icmp_ne (tgt := 48) hx hb (by omega) (⟨by decide, by decide⟩) dX2_readRest_23 (by decide) (fun c_2 => ?_) (fun c_2 => ?_)
    · skip
      refine lv_aload_n hx hb dX2_readRest_48 rfl (lv_at hl 0 rfl) ?_
      refine va_get (D := D) (ci := 2) (v := .int (iI ((tx src srl pz : Nat) : Int))) (C := RX2) (T := TX2) (N := 7) hx hb hts nX2_readRest_X2 hown hK hP 0 rfl rfl 2 (by decide) (hts _ kX2_readRest_49) (fun _ h9 => h9) rfl dX2_readRest_49 ?_
      refine r_bipush hx hb dX2_readRest_52 (by decide) ?_
      refine r_icmp_ne (tgt := 79) hx hb (by omega) (⟨by decide, by decide⟩) dX2_readRest_54 (by decide) (fun c_3 => ?_) (fun c_3 => ?_)
      · skip
        have hcr := @cR_o3 (tx src srl) pz (by omega) hdg
        refine r_iconst hx hb dX2_readRest_79 ?_
        exact r_zretX hx hb hr hlocks hP hD hS (nE (tx src srl) (pz + 1), vn_u2, se, la, lt, 1) (rfl) (⟨by (try dsimp only); omega, by (try dsimp only); omega, by (try dsimp only); omega, by (try dsimp only); omega, by (try dsimp only); omega, by (try dsimp only); omega, by (try dsimp only); omega⟩) rfl (Or.inr rfl) dX2_readRest_80
      · skip
        refine lv_aload_n hx hb dX2_readRest_57 rfl (lv_at hl 0 rfl) ?_
        refine r_bipush hx hb dX2_readRest_58 (by decide) ?_
        refine callVX (n := 1) (As := [.int (iI 44)]) (rest := []) (wc := [(xs, .inr (2, [.ref xr, .int (iI ((nE (tx src srl) (pz + 1) : Nat) : Int)), .int (iI ((tx src srl pz : Nat) : Int)), .int (iI (vn_u2)), .int (iI (se)), .int (iI ((la : Nat) : Int)), .int (iI ((lt : Nat) : Int))])), (xr, .inr (1, [.ref xra, .int (iI ((srl : Nat) : Int))])), (xra, .inl (cI, 80, .inl (rN (src))))]) (wr := []) (ws2 := fun u => [(xs, .inr (2, [.ref xr, .int (iI ((u : Nat) : Int)), .int (iI ((tx src srl pz : Nat) : Int)), .int (iI (vn_u2)), .int (iI (se)), .int (iI ((la : Nat) : Int)), .int (iI ((lt : Nat) : Int))])), (xr, .inr (1, [.ref xra, .int (iI ((srl : Nat) : Int))])), (xra, .inl (cI, 80, .inl (rN (src))))]) S hE hP hD hS hA (t_accept l D cI cB cZ cO H.size xs xr xra (nE (tx src srl) (pz + 1)) la lt srl ((tx src srl pz : Nat) : Int) vn_u2 se src 44 (by first | assumption | (omega)) (by first | assumption | (omega)) (by first | assumption | (omega)) (by first | assumption | (omega))) gX2_readRest_X2_accept rfl ⟨rfl, rfl⟩ (by decide +kernel) ⟨Nat.le_of_ble_eq_true rfl, Nat.le_of_ble_eq_true rfl⟩ [0, 1, 2] [] [0, 1, 2] rfl (by decide) rfl (by decide) (by decide) (by decide) (fun u => rfl) 2 0 rfl rfl rfl hl.1 rfl (Nat.le_of_ble_eq_true rfl) dX2_readRest_60 ⟨Nat.le_of_ble_eq_true rfl, Nat.le_of_ble_eq_true rfl⟩ (fun u u60p H locs hP hD hS => ?_)
        generalize u = at2_u60 at u60p hP hD ⊢
        obtain ⟨hat1_u60, hat0_u60⟩ := u60p
        have hat1_u60 : tx src srl (nE (tx src srl) (pz + 1)) = 44 → at2_u60 = (nE (tx src srl) (pz + 1)) + 1 := hat1_u60
        have hat0_u60 : ¬ tx src srl (nE (tx src srl) (pz + 1)) = 44 → at2_u60 = (nE (tx src srl) (pz + 1)) := hat0_u60
        have hP : va_P D vwCl [(xs, .inr (2, [.ref xr, .int (iI ((at2_u60 : Nat) : Int)), .int (iI ((tx src srl pz : Nat) : Int)), .int (iI (vn_u2)), .int (iI (se)), .int (iI ((la : Nat) : Int)), .int (iI ((lt : Nat) : Int))])), (xr, .inr (1, [.ref xra, .int (iI ((srl : Nat) : Int))])), (xra, .inl (cI, 80, .inl (rN (src))))] H := hP
        have hD : va_D A [(xs, .inr (2, [.ref xr, .int (iI ((at2_u60 : Nat) : Int)), .int (iI ((tx src srl pz : Nat) : Int)), .int (iI (vn_u2)), .int (iI (se)), .int (iI ((la : Nat) : Int)), .int (iI ((lt : Nat) : Int))])), (xr, .inr (1, [.ref xra, .int (iI ((srl : Nat) : Int))])), (xra, .inl (cI, 80, .inl (rN (src))))] := hD
        refine W.eq (g2 := F0 m 63 ls [.int (iI (bI (tx src srl (nE (tx src srl) (pz + 1)) = 44)))]) rfl ?_
        refine r_ifb_eq (tgt := 77) hx hb dX2_readRest_63 (by decide) (fun c_4 => ?_) (fun c_4 => ?_)
        · skip
          have hcr : cP (tx src srl) pz = at2_u60 ∧ cK (tx src srl) pz = 0 := by first | (have h9 := @cR_m1 (tx src srl) pz (by omega) hdg (by assumption); omega) | (have h9 := @cR_m2 (tx src srl) pz (by omega) hdg (by assumption) (by assumption); omega)
          refine r_iconst hx hb dX2_readRest_77 ?_
          exact r_zretX hx hb hr hlocks hP hD hS (at2_u60, vn_u2, se, la, lt, 0) (rfl) (⟨by (try dsimp only); omega, by (try dsimp only); omega, by (try dsimp only); omega, by (try dsimp only); omega, by (try dsimp only); omega, by (try dsimp only); omega, by (try dsimp only); omega⟩) rfl (Or.inl rfl) dX2_readRest_78
        · skip
          obtain rfl : at2_u60 = nE (tx src srl) (pz + 1) + 1 := by omega
          refine lv_aload_n hx hb dX2_readRest_66 rfl (lv_at hl 0 rfl) ?_
          refine callVX (n := 0) (As := []) (rest := []) (wc := [(xs, .inr (2, [.ref xr, .int (iI ((nE (tx src srl) (pz + 1) + 1 : Nat) : Int)), .int (iI ((tx src srl pz : Nat) : Int)), .int (iI (vn_u2)), .int (iI (se)), .int (iI ((la : Nat) : Int)), .int (iI ((lt : Nat) : Int))])), (xr, .inr (1, [.ref xra, .int (iI ((srl : Nat) : Int))])), (xra, .inl (cI, 80, .inl (rN (src))))]) (wr := []) (ws2 := fun u => [(xs, .inr (2, [.ref xr, .int (iI ((u.1 : Nat) : Int)), .int (iI ((tx src srl pz : Nat) : Int)), .int (iI (vn_u2)), .int (iI (u.2)), .int (iI ((la : Nat) : Int)), .int (iI ((lt : Nat) : Int))])), (xr, .inr (1, [.ref xra, .int (iI ((srl : Nat) : Int))])), (xra, .inl (cI, 80, .inl (rN (src))))]) S hE hP hD hS hA (t_readSecond l D cI cB cZ cO H.size xs xr xra (nE (tx src srl) (pz + 1) + 1) la lt srl ((tx src srl pz : Nat) : Int) vn_u2 se src (by first | assumption | (omega)) (by first | assumption | (omega)) (by first | assumption | (omega))) gX2_readRest_X2_readSecond rfl ⟨rfl, rfl⟩ (by decide +kernel) ⟨Nat.le_of_ble_eq_true rfl, Nat.le_of_ble_eq_true rfl⟩ [0, 1, 2] [] [0, 1, 2] rfl (by decide) rfl (by decide) (by decide) (by decide) (fun u => rfl) 2 0 rfl rfl rfl hl.1 rfl (Nat.le_of_ble_eq_true rfl) dX2_readRest_67 ⟨Nat.le_of_ble_eq_true rfl, Nat.le_of_ble_eq_true rfl⟩ (fun u u67p H locs hP hD hS => ?_)
          obtain ⟨at2_u67, se2_u67⟩ := u
          obtain ⟨hny_u67, hnn_u67⟩ := u67p
          have hny_u67 : (48 ≤ tx src srl ((nE (tx src srl) (pz + 1) + 1)) ∧ tx src srl ((nE (tx src srl) (pz + 1) + 1)) ≤ 57) → at2_u67 = nE (tx src srl) (nE (tx src srl) (pz + 1) + 1) ∧ se2_u67 = ((nV (tx src srl) (nE (tx src srl) (pz + 1) + 1) : Nat) : Int) := hny_u67
          have hnn_u67 : ¬ (48 ≤ tx src srl ((nE (tx src srl) (pz + 1) + 1)) ∧ tx src srl ((nE (tx src srl) (pz + 1) + 1)) ≤ 57) → at2_u67 = (nE (tx src srl) (pz + 1) + 1) := hnn_u67
          have hP : va_P D vwCl [(xs, .inr (2, [.ref xr, .int (iI ((at2_u67 : Nat) : Int)), .int (iI ((tx src srl pz : Nat) : Int)), .int (iI (vn_u2)), .int (iI (se2_u67)), .int (iI ((la : Nat) : Int)), .int (iI ((lt : Nat) : Int))])), (xr, .inr (1, [.ref xra, .int (iI ((srl : Nat) : Int))])), (xra, .inl (cI, 80, .inl (rN (src))))] H := hP
          have hD : va_D A [(xs, .inr (2, [.ref xr, .int (iI ((at2_u67 : Nat) : Int)), .int (iI ((tx src srl pz : Nat) : Int)), .int (iI (vn_u2)), .int (iI (se2_u67)), .int (iI ((la : Nat) : Int)), .int (iI ((lt : Nat) : Int))])), (xr, .inr (1, [.ref xra, .int (iI ((srl : Nat) : Int))])), (xra, .inl (cI, 80, .inl (rN (src))))] := hD
          refine W.eq (g2 := F0 m 70 ls [.int (iI (bI (48 ≤ tx src srl ((nE (tx src srl) (pz + 1) + 1)) ∧ tx src srl ((nE (tx src srl) (pz + 1) + 1)) ≤ 57)))]) rfl ?_
          refine r_ifb_eq (tgt := 77) hx hb dX2_readRest_70 (by decide) (fun c_5 => ?_) (fun c_5 => ?_)
          · skip
            have hcr : cP (tx src srl) pz = at2_u67 ∧ cK (tx src srl) pz = 0 := by first | (have h9 := @cR_m1 (tx src srl) pz (by omega) hdg (by assumption); omega) | (have h9 := @cR_m2 (tx src srl) pz (by omega) hdg (by assumption) (by assumption); omega)
            refine r_iconst hx hb dX2_readRest_77 ?_
            exact r_zretX hx hb hr hlocks hP hD hS (at2_u67, vn_u2, se2_u67, la, lt, 0) (rfl) (⟨by (try dsimp only); omega, by (try dsimp only); omega, by (try dsimp only); omega, by (try dsimp only); omega, by (try dsimp only); omega, by (try dsimp only); omega, by (try dsimp only); omega⟩) rfl (Or.inl rfl) dX2_readRest_78
          · skip
            obtain rfl : at2_u67 = nE (tx src srl) (nE (tx src srl) (pz + 1) + 1) := by omega
            have hcr := @cR_m3 (tx src srl) pz (by omega) hdg (by assumption) (by assumption)
            refine r_iconst hx hb dX2_readRest_73 ?_
            refine lv_goto (tgt := 78) hx hb dX2_readRest_74 (by decide) ?_
            exact r_zretX hx hb hr hlocks hP hD hS (nE (tx src srl) (nE (tx src srl) (pz + 1) + 1), vn_u2, se2_u67, la, lt, 1) (rfl) (⟨by (try dsimp only); omega, by (try dsimp only); omega, by (try dsimp only); omega, by (try dsimp only); omega, by (try dsimp only); omega, by (try dsimp only); omega, by (try dsimp only); omega⟩) rfl (Or.inr rfl) dX2_readRest_78
    · skip
      refine lv_aload_n hx hb dX2_readRest_26 rfl (lv_at hl 0 rfl) ?_
      refine r_bipush hx hb dX2_readRest_27 (by decide) ?_
      refine callVX (n := 1) (As := [.int (iI 58)]) (rest := []) (wc := [(xs, .inr (2, [.ref xr, .int (iI ((nE (tx src srl) (pz + 1) : Nat) : Int)), .int (iI ((tx src srl pz : Nat) : Int)), .int (iI (vn_u2)), .int (iI (se)), .int (iI ((la : Nat) : Int)), .int (iI ((lt : Nat) : Int))])), (xr, .inr (1, [.ref xra, .int (iI ((srl : Nat) : Int))])), (xra, .inl (cI, 80, .inl (rN (src))))]) (wr := []) (ws2 := fun u => [(xs, .inr (2, [.ref xr, .int (iI ((u : Nat) : Int)), .int (iI ((tx src srl pz : Nat) : Int)), .int (iI (vn_u2)), .int (iI (se)), .int (iI ((la : Nat) : Int)), .int (iI ((lt : Nat) : Int))])), (xr, .inr (1, [.ref xra, .int (iI ((srl : Nat) : Int))])), (xra, .inl (cI, 80, .inl (rN (src))))]) S hE hP hD hS hA (t_accept l D cI cB cZ cO H.size xs xr xra (nE (tx src srl) (pz + 1)) la lt srl ((tx src srl pz : Nat) : Int) vn_u2 se src 58 (by first | assumption | (omega)) (by first | assumption | (omega)) (by first | assumption | (omega)) (by first | assumption | (omega))) gX2_readRest_X2_accept rfl ⟨rfl, rfl⟩ (by decide +kernel) ⟨Nat.le_of_ble_eq_true rfl, Nat.le_of_ble_eq_true rfl⟩ [0, 1, 2] [] [0, 1, 2] rfl (by decide) rfl (by decide) (by decide) (by decide) (fun u => rfl) 2 0 rfl rfl rfl hl.1 rfl (Nat.le_of_ble_eq_true rfl) dX2_readRest_29 ⟨Nat.le_of_ble_eq_true rfl, Nat.le_of_ble_eq_true rfl⟩ (fun u u29p H locs hP hD hS => ?_)
      generalize u = at2_u29 at u29p hP hD ⊢
      obtain ⟨hat1_u29, hat0_u29⟩ := u29p
      have hat1_u29 : tx src srl (nE (tx src srl) (pz + 1)) = 58 → at2_u29 = (nE (tx src srl) (pz + 1)) + 1 := hat1_u29
      have hat0_u29 : ¬ tx src srl (nE (tx src srl) (pz + 1)) = 58 → at2_u29 = (nE (tx src srl) (pz + 1)) := hat0_u29
      have hP : va_P D vwCl [(xs, .inr (2, [.ref xr, .int (iI ((at2_u29 : Nat) : Int)), .int (iI ((tx src srl pz : Nat) : Int)), .int (iI (vn_u2)), .int (iI (se)), .int (iI ((la : Nat) : Int)), .int (iI ((lt : Nat) : Int))])), (xr, .inr (1, [.ref xra, .int (iI ((srl : Nat) : Int))])), (xra, .inl (cI, 80, .inl (rN (src))))] H := hP
      have hD : va_D A [(xs, .inr (2, [.ref xr, .int (iI ((at2_u29 : Nat) : Int)), .int (iI ((tx src srl pz : Nat) : Int)), .int (iI (vn_u2)), .int (iI (se)), .int (iI ((la : Nat) : Int)), .int (iI ((lt : Nat) : Int))])), (xr, .inr (1, [.ref xra, .int (iI ((srl : Nat) : Int))])), (xra, .inl (cI, 80, .inl (rN (src))))] := hD
      refine W.eq (g2 := F0 m 32 ls [.int (iI (bI (tx src srl (nE (tx src srl) (pz + 1)) = 58)))]) rfl ?_
      refine r_ifb_eq (tgt := 46) hx hb dX2_readRest_32 (by decide) (fun c_6 => ?_) (fun c_6 => ?_)
      · skip
        have hcr : cP (tx src srl) pz = at2_u29 ∧ cK (tx src srl) pz = 0 := by first | (have h9 := @cR_p1 (tx src srl) pz (by omega) hdg (by assumption); omega) | (have h9 := @cR_p2 (tx src srl) pz (by omega) hdg (by assumption) (by omega); omega)
        refine r_iconst hx hb dX2_readRest_46 ?_
        exact r_zretX hx hb hr hlocks hP hD hS (at2_u29, vn_u2, se, la, lt, 0) (rfl) (⟨by (try dsimp only); omega, by (try dsimp only); omega, by (try dsimp only); omega, by (try dsimp only); omega, by (try dsimp only); omega, by (try dsimp only); omega, by (try dsimp only); omega⟩) rfl (Or.inl rfl) dX2_readRest_47
      · skip
        obtain rfl : at2_u29 = nE (tx src srl) (pz + 1) + 1 := by omega
        refine lv_aload_n hx hb dX2_readRest_35 rfl (lv_at hl 0 rfl) ?_
        refine callVX (n := 0) (As := []) (rest := []) (wc := [(xs, .inr (2, [.ref xr, .int (iI ((nE (tx src srl) (pz + 1) + 1 : Nat) : Int)), .int (iI ((tx src srl pz : Nat) : Int)), .int (iI (vn_u2)), .int (iI (se)), .int (iI ((la : Nat) : Int)), .int (iI ((lt : Nat) : Int))])), (xr, .inr (1, [.ref xra, .int (iI ((srl : Nat) : Int))])), (xra, .inl (cI, 80, .inl (rN (src))))]) (wr := []) (ws2 := fun u => [(xs, .inr (2, [.ref xr, .int (iI (((nE (tx src srl) (pz + 1) + 1) + lts (tx src srl) (nE (tx src srl) (pz + 1) + 1) : Nat) : Int)), .int (iI ((tx src srl pz : Nat) : Int)), .int (iI (vn_u2)), .int (iI (se)), .int (iI ((nE (tx src srl) (pz + 1) + 1 : Nat) : Int)), .int (iI ((lts (tx src srl) (nE (tx src srl) (pz + 1) + 1) : Nat) : Int))])), (xr, .inr (1, [.ref xra, .int (iI ((srl : Nat) : Int))])), (xra, .inl (cI, 80, .inl (rN (src))))]) S hE hP hD hS hA (t_readLetters l D cI cB cZ cO H.size xs xr xra (nE (tx src srl) (pz + 1) + 1) la lt srl ((tx src srl pz : Nat) : Int) vn_u2 se src (by first | assumption | (omega)) (by first | assumption | (omega)) (by first | assumption | (omega))) gX2_readRest_X2_readLetters rfl ⟨rfl, rfl⟩ (by decide +kernel) ⟨Nat.le_of_ble_eq_true rfl, Nat.le_of_ble_eq_true rfl⟩ [0, 1, 2] [] [0, 1, 2] rfl (by decide) rfl (by decide) (by decide) (by decide) (fun u => rfl) 2 0 rfl rfl rfl hl.1 rfl (Nat.le_of_ble_eq_true rfl) dX2_readRest_36 ⟨Nat.le_of_ble_eq_true rfl, Nat.le_of_ble_eq_true rfl⟩ (fun u u36p H locs hP hD hS => ?_)
        have hP : va_P D vwCl [(xs, .inr (2, [.ref xr, .int (iI (((nE (tx src srl) (pz + 1) + 1) + lts (tx src srl) (nE (tx src srl) (pz + 1) + 1) : Nat) : Int)), .int (iI ((tx src srl pz : Nat) : Int)), .int (iI (vn_u2)), .int (iI (se)), .int (iI ((nE (tx src srl) (pz + 1) + 1 : Nat) : Int)), .int (iI ((lts (tx src srl) (nE (tx src srl) (pz + 1) + 1) : Nat) : Int))])), (xr, .inr (1, [.ref xra, .int (iI ((srl : Nat) : Int))])), (xra, .inl (cI, 80, .inl (rN (src))))] H := hP
        have hD : va_D A [(xs, .inr (2, [.ref xr, .int (iI (((nE (tx src srl) (pz + 1) + 1) + lts (tx src srl) (nE (tx src srl) (pz + 1) + 1) : Nat) : Int)), .int (iI ((tx src srl pz : Nat) : Int)), .int (iI (vn_u2)), .int (iI (se)), .int (iI ((nE (tx src srl) (pz + 1) + 1 : Nat) : Int)), .int (iI ((lts (tx src srl) (nE (tx src srl) (pz + 1) + 1) : Nat) : Int))])), (xr, .inr (1, [.ref xra, .int (iI ((srl : Nat) : Int))])), (xra, .inl (cI, 80, .inl (rN (src))))] := hD
        refine W.eq (g2 := F0 m 39 ls [.int (iI (bI (¬ lts (tx src srl) (nE (tx src srl) (pz + 1) + 1) = 0)))]) rfl ?_
        refine r_ifb_eq (tgt := 46) hx hb dX2_readRest_39 (by decide) (fun c_7 => ?_) (fun c_7 => ?_)
        · skip
          have hcr : cP (tx src srl) pz = (nE (tx src srl) (pz + 1) + 1) + lts (tx src srl) (nE (tx src srl) (pz + 1) + 1) ∧ cK (tx src srl) pz = 0 := by first | (have h9 := @cR_p1 (tx src srl) pz (by omega) hdg (by assumption); omega) | (have h9 := @cR_p2 (tx src srl) pz (by omega) hdg (by assumption) (by omega); omega)
          refine r_iconst hx hb dX2_readRest_46 ?_
          exact r_zretX hx hb hr hlocks hP hD hS ((nE (tx src srl) (pz + 1) + 1) + lts (tx src srl) (nE (tx src srl) (pz + 1) + 1), vn_u2, se, nE (tx src srl) (pz + 1) + 1, lts (tx src srl) (nE (tx src srl) (pz + 1) + 1), 0) (rfl) (⟨by (try dsimp only); omega, by (try dsimp only); omega, by (try dsimp only); omega, by (try dsimp only); omega, by (try dsimp only); omega, by (try dsimp only); omega, by (try dsimp only); omega⟩) rfl (Or.inl rfl) dX2_readRest_47
        · skip
          have hcr := @cR_p3 (tx src srl) pz (by omega) hdg (by assumption) (by assumption)
          refine r_iconst hx hb dX2_readRest_42 ?_
          refine lv_goto (tgt := 47) hx hb dX2_readRest_43 (by decide) ?_
          exact r_zretX hx hb hr hlocks hP hD hS ((nE (tx src srl) (pz + 1) + 1) + lts (tx src srl) (nE (tx src srl) (pz + 1) + 1), vn_u2, se, nE (tx src srl) (pz + 1) + 1, lts (tx src srl) (nE (tx src srl) (pz + 1) + 1), 1) (rfl) (⟨by (try dsimp only); omega, by (try dsimp only); omega, by (try dsimp only); omega, by (try dsimp only); omega, by (try dsimp only); omega, by (try dsimp only); omega, by (try dsimp only); omega⟩) rfl (Or.inr rfl) dX2_readRest_47
  · skip
    have hcr := @cR_n (tx src srl) pz hsg (by omega)
    refine r_iconst hx hb dX2_readRest_15 ?_
    exact r_zretX hx hb hr hlocks hP hD hS (at2_u2, vn_u2, se, la, lt, 0) (rfl) (⟨by (try dsimp only); omega, by (try dsimp only); omega, by (try dsimp only); omega, by (try dsimp only); omega, by (try dsimp only); omega, by (try dsimp only); omega, by (try dsimp only); omega⟩) rfl (Or.inl rfl) dX2_readRest_16

theorem kX2_next_20 : Cond.fieldLink RX2 20 "PricedUndo$Script" "at" "I" ∈ wsX2_next := List.mem_of_getElem? (i := 1) (by decide +kernel)
theorem nX2_next_X2 : ∀ w ∈ u_ws RX2 TX2 7, w ∈ wsX2_next := in_lay 46 (by decide +kernel)
theorem kX2_next_14 : Cond.fieldLink RX2 14 "PricedUndo$Script" "signs" "LPricedUndo$Row;" ∈ wsX2_next := List.mem_of_getElem? (i := 2) (by decide +kernel)
theorem nX2_next_X1 : ∀ w ∈ u_ws RX1 TX1 2, w ∈ wsX2_next := in_lay 53 (by decide +kernel)
set_option maxHeartbeats 4000000 in
set_option maxRecDepth 100000 in
theorem t_next (l : Launch) (D : va_G) (cI cB cZ cO : ClassId) (sz : Nat) (xs : Nat) (xr : Nat) (xra : Nat) (p1 : Nat) (la : Nat) (lt : Nat) (srl : Nat) (sg : Int) (fi : Int) (se : Int) (src : Nat → Nat) (hrl : srl ≤ 80) (hsc : ∀ k, src k < 256) (hp1 : p1 ≤ 100) : Met l yX2_next wsX2_next ({ frames := 4, cells := 0, slots := 0, locals := 82 }) (va_Pc [.ref xs] (RW D cI cB cZ cO sz [(xs, .inr (2, [.ref xr, .int (iI ((p1 : Nat) : Int)), .int (iI (sg)), .int (iI (fi)), .int (iI (se)), .int (iI ((la : Nat) : Int)), .int (iI ((lt : Nat) : Int))])), (xr, .inr (1, [.ref xra, .int (iI ((srl : Nat) : Int))])), (xra, .inl (cI, 80, .inl (rN (src))))])) (QX D (S := Nat × Int × Int × Int × Nat × Nat × Int) (fun u => some (.int (iI (u.2.2.2.2.2.2)))) (fun u => (¬ sk (tx src srl) p1 < srl → u.2.2.2.2.2.2 = 0 ∧ u.1 = sk (tx src srl) p1) ∧ (sk (tx src srl) p1 < srl → u.1 = cP (tx src srl) (sk (tx src srl) p1) ∧ ((cK (tx src srl) (sk (tx src srl) p1) = 1 ∧ u.2.2.2.2.2.2 = 1) ∨ (cK (tx src srl) (sk (tx src srl) p1) = 0 ∧ u.2.2.2.2.2.2 = -1))) ∧ (sk (tx src srl) p1 < srl → cK (tx src srl) (sk (tx src srl) p1) = 1 → u.2.1 = ((tx src srl (sk (tx src srl) p1) : Nat) : Int) ∧ u.2.2.1 = ((nV (tx src srl) (sk (tx src srl) p1 + 1) : Nat) : Int) ∧ (tx src srl (sk (tx src srl) p1) = 45 → u.2.2.2.1 = ((nV (tx src srl) (nE (tx src srl) (sk (tx src srl) p1 + 1) + 1) : Nat) : Int)) ∧ (tx src srl (sk (tx src srl) p1) = 43 → u.2.2.2.2.1 = nE (tx src srl) (sk (tx src srl) p1 + 1) + 1 ∧ u.2.2.2.2.2.1 = lts (tx src srl) (nE (tx src srl) (sk (tx src srl) p1 + 1) + 1)))) (fun u => [(xs, .inr (2, [.ref xr, .int (iI ((u.1 : Nat) : Int)), .int (iI (u.2.1)), .int (iI (u.2.2.1)), .int (iI (u.2.2.2.1)), .int (iI ((u.2.2.2.2.1 : Nat) : Int)), .int (iI ((u.2.2.2.2.2.1 : Nat) : Int))])), (xr, .inr (1, [.ref xra, .int (iI ((srl : Nat) : Int))])), (xra, .inl (cI, 80, .inl (rN (src))))]) (va_A [(xs, .inr (2, [.ref xr, .int (iI ((p1 : Nat) : Int)), .int (iI (sg)), .int (iI (fi)), .int (iI (se)), .int (iI ((la : Nat) : Int)), .int (iI ((lt : Nat) : Int))])), (xr, .inr (1, [.ref xra, .int (iI ((srl : Nat) : Int))])), (xra, .inl (cI, 80, .inl (rN (src))))] sz)) 0 0 (va_A [(xs, .inr (2, [.ref xr, .int (iI ((p1 : Nat) : Int)), .int (iI (sg)), .int (iI (fi)), .int (iI (se)), .int (iI ((la : Nat) : Int)), .int (iI ((lt : Nat) : Int))])), (xr, .inr (1, [.ref xra, .int (iI ((srl : Nat) : Int))])), (xra, .inl (cI, 80, .inl (rN (src))))] sz) := by
  refine startW (cc := cX2_next) (maxL := 1) (ret := (some .int)) (by decide) rfl (Nat.le_of_ble_eq_true rfl) ?_
  intro p e s m below meth c S hr hlocks hE hP A hD hA hS ls hl
  have hx := S.1
  have hb := S.2.1
  have hown := S.2.2.2.1
  have hts := S.2.2.2.2
  have hK := hE.1
  have hl : lv_has ls 1 [(0, .ref xs)] := hl
  have loop_0 : ∀ (n_0 : Nat) (P : Nat), (srl - P) < n_0 → (p1 ≤ P) → (∀ j, p1 ≤ j → j < P → tx src srl j = 32) → (P = p1 ∨ P ≤ srl) → ∀ (H : Heap) (locs : List Loc), va_P D vwCl [(xs, .inr (2, [.ref xr, .int (iI ((P : Nat) : Int)), .int (iI (sg)), .int (iI (fi)), .int (iI (se)), .int (iI ((la : Nat) : Int)), .int (iI ((lt : Nat) : Int))])), (xr, .inr (1, [.ref xra, .int (iI ((srl : Nat) : Int))])), (xra, .inl (cI, 80, .inl (rN (src))))] H → va_D A [(xs, .inr (2, [.ref xr, .int (iI ((P : Nat) : Int)), .int (iI (sg)), .int (iI (fi)), .int (iI (se)), .int (iI ((la : Nat) : Int)), .int (iI ((lt : Nat) : Int))])), (xr, .inr (1, [.ref xra, .int (iI ((srl : Nat) : Int))])), (xra, .inl (cI, 80, .inl (rN (src))))] → va_S A s.heap H locs → ∀ (ls : Array Slot), lv_has ls 1 [(0, .ref xs)] → W p l e ({ frames := 4, cells := 0, slots := 0, locals := 82 }) s m ([.ref xs] : List Value).toArray below meth c H locs 0 0 (MQ below (QX D (S := Nat × Int × Int × Int × Nat × Nat × Int) (fun u => some (.int (iI (u.2.2.2.2.2.2)))) (fun u => (¬ sk (tx src srl) p1 < srl → u.2.2.2.2.2.2 = 0 ∧ u.1 = sk (tx src srl) p1) ∧ (sk (tx src srl) p1 < srl → u.1 = cP (tx src srl) (sk (tx src srl) p1) ∧ ((cK (tx src srl) (sk (tx src srl) p1) = 1 ∧ u.2.2.2.2.2.2 = 1) ∨ (cK (tx src srl) (sk (tx src srl) p1) = 0 ∧ u.2.2.2.2.2.2 = -1))) ∧ (sk (tx src srl) p1 < srl → cK (tx src srl) (sk (tx src srl) p1) = 1 → u.2.1 = ((tx src srl (sk (tx src srl) p1) : Nat) : Int) ∧ u.2.2.1 = ((nV (tx src srl) (sk (tx src srl) p1 + 1) : Nat) : Int) ∧ (tx src srl (sk (tx src srl) p1) = 45 → u.2.2.2.1 = ((nV (tx src srl) (nE (tx src srl) (sk (tx src srl) p1 + 1) + 1) : Nat) : Int)) ∧ (tx src srl (sk (tx src srl) p1) = 43 → u.2.2.2.2.1 = nE (tx src srl) (sk (tx src srl) p1 + 1) + 1 ∧ u.2.2.2.2.2.1 = lts (tx src srl) (nE (tx src srl) (sk (tx src srl) p1 + 1) + 1)))) (fun u => [(xs, .inr (2, [.ref xr, .int (iI ((u.1 : Nat) : Int)), .int (iI (u.2.1)), .int (iI (u.2.2.1)), .int (iI (u.2.2.2.1)), .int (iI ((u.2.2.2.2.1 : Nat) : Int)), .int (iI ((u.2.2.2.2.2.1 : Nat) : Int))])), (xr, .inr (1, [.ref xra, .int (iI ((srl : Nat) : Int))])), (xra, .inl (cI, 80, .inl (rN (src))))]) A) ([.ref xs] : List Value).toArray s 0 0 A) (F0 m 0 ls []) := by
    intro n_0
    induction n_0 with
    | zero => intro P h_meas; exact absurd h_meas (Nat.not_lt_zero _)
    | succ n_0 ih_0 =>
      intro P h_m0 iP il ib H locs hP hD hS ls hl
      have htx := @tx_row src srl (P)
      have hsp := hsc (P)
      refine lv_aload_n hx hb dX2_next_0 rfl (lv_at hl 0 rfl) ?_
      refine va_get (D := D) (ci := 2) (v := .int (iI ((P : Nat) : Int))) (C := RX2) (T := TX2) (N := 7) hx hb hts nX2_next_X2 hown hK hP 0 rfl rfl 1 (by decide) (hts _ kX2_next_20) (fun _ h9 => h9) rfl dX2_next_1 ?_
      refine lv_aload_n hx hb dX2_next_4 rfl (lv_at hl 0 rfl) ?_
      refine va_get (D := D) (ci := 2) (v := .ref xr) (C := RX2) (T := TX2) (N := 7) hx hb hts nX2_next_X2 hown hK hP 0 rfl rfl 0 (by decide) (hts _ kX2_next_14) (fun _ h9 => h9) rfl dX2_next_5 ?_
      refine va_getN (D := D) (ci := 1) (v := .int (iI ((srl : Nat) : Int))) (C := RX1) (T := TX1) (N := 2) hx hb hts nX2_next_X1 hown hK hP 1 rfl rfl 1 (by decide) (va_Nw.use rfl (hE.2.f 2 rfl)) (fun _ h9 => h9) rfl dX2_next_8 ?_
      refine r_icmp_ge (tgt := 43) hx hb (by omega) (by omega) dX2_next_11 (by decide) (fun c_1 => ?_) (fun c_1 => ?_)
      · skip
        have hsk : sk (tx src srl) p1 = P := sk_P iP il (by omega) (by omega)
        refine lv_aload_n hx hb dX2_next_43 rfl (lv_at hl 0 rfl) ?_
        refine va_get (D := D) (ci := 2) (v := .int (iI ((P : Nat) : Int))) (C := RX2) (T := TX2) (N := 7) hx hb hts nX2_next_X2 hown hK hP 0 rfl rfl 1 (by decide) (hts _ kX2_next_20) (fun _ h9 => h9) rfl dX2_next_44 ?_
        refine lv_aload_n hx hb dX2_next_47 rfl (lv_at hl 0 rfl) ?_
        refine va_get (D := D) (ci := 2) (v := .ref xr) (C := RX2) (T := TX2) (N := 7) hx hb hts nX2_next_X2 hown hK hP 0 rfl rfl 0 (by decide) (hts _ kX2_next_14) (fun _ h9 => h9) rfl dX2_next_48 ?_
        refine va_getN (D := D) (ci := 1) (v := .int (iI ((srl : Nat) : Int))) (C := RX1) (T := TX1) (N := 2) hx hb hts nX2_next_X1 hown hK hP 1 rfl rfl 1 (by decide) (va_Nw.use rfl (hE.2.f 2 rfl)) (fun _ h9 => h9) rfl dX2_next_51 ?_
        refine r_icmp_lt (tgt := 59) hx hb (by omega) (by omega) dX2_next_54 (by decide) (fun c_2 => ?_) (fun c_2 => ?_)
        · skip
          refine lv_aload_n hx hb dX2_next_59 rfl (lv_at hl 0 rfl) ?_
          refine callVX (n := 0) (As := []) (rest := []) (wc := [(xs, .inr (2, [.ref xr, .int (iI ((P : Nat) : Int)), .int (iI (sg)), .int (iI (fi)), .int (iI (se)), .int (iI ((la : Nat) : Int)), .int (iI ((lt : Nat) : Int))])), (xr, .inr (1, [.ref xra, .int (iI ((srl : Nat) : Int))])), (xra, .inl (cI, 80, .inl (rN (src))))]) (wr := []) (ws2 := fun u => [(xs, .inr (2, [.ref xr, .int (iI ((u : Nat) : Int)), .int (iI ((tx src srl P : Nat) : Int)), .int (iI (fi)), .int (iI (se)), .int (iI ((la : Nat) : Int)), .int (iI ((lt : Nat) : Int))])), (xr, .inr (1, [.ref xra, .int (iI ((srl : Nat) : Int))])), (xra, .inl (cI, 80, .inl (rN (src))))]) S hE hP hD hS hA (t_readSign l D cI cB cZ cO H.size xs xr xra P la lt srl sg fi se src (by first | assumption | (omega)) (by first | assumption | (omega)) (by first | assumption | (omega))) gX2_next_X2_readSign rfl ⟨rfl, rfl⟩ (by decide +kernel) ⟨Nat.le_of_ble_eq_true rfl, Nat.le_of_ble_eq_true rfl⟩ [0, 1, 2] [] [0, 1, 2] rfl (by decide) rfl (by decide) (by decide) (by decide) (fun u => rfl) 2 0 rfl rfl rfl hl.1 rfl (Nat.le_of_ble_eq_true rfl) dX2_next_60 ⟨Nat.le_of_ble_eq_true rfl, Nat.le_of_ble_eq_true rfl⟩ (fun u u60p H locs hP hD hS => ?_)
          generalize u = at2_u60 at u60p hP hD ⊢
          obtain ⟨hs1_u60, hs0_u60⟩ := u60p
          have hs1_u60 : (tx src srl P = 43 ∨ tx src srl P = 45 ∨ tx src srl P = 60 ∨ tx src srl P = 62 ∨ tx src srl P = 64) → at2_u60 = P + 1 := hs1_u60
          have hs0_u60 : ¬ (tx src srl P = 43 ∨ tx src srl P = 45 ∨ tx src srl P = 60 ∨ tx src srl P = 62 ∨ tx src srl P = 64) → at2_u60 = P := hs0_u60
          have hP : va_P D vwCl [(xs, .inr (2, [.ref xr, .int (iI ((at2_u60 : Nat) : Int)), .int (iI ((tx src srl P : Nat) : Int)), .int (iI (fi)), .int (iI (se)), .int (iI ((la : Nat) : Int)), .int (iI ((lt : Nat) : Int))])), (xr, .inr (1, [.ref xra, .int (iI ((srl : Nat) : Int))])), (xra, .inl (cI, 80, .inl (rN (src))))] H := hP
          have hD : va_D A [(xs, .inr (2, [.ref xr, .int (iI ((at2_u60 : Nat) : Int)), .int (iI ((tx src srl P : Nat) : Int)), .int (iI (fi)), .int (iI (se)), .int (iI ((la : Nat) : Int)), .int (iI ((lt : Nat) : Int))])), (xr, .inr (1, [.ref xra, .int (iI ((srl : Nat) : Int))])), (xra, .inl (cI, 80, .inl (rN (src))))] := hD
          refine W.eq (g2 := F0 m 63 ls [.int (iI (bI (tx src srl P = 43 ∨ tx src srl P = 45 ∨ tx src srl P = 60 ∨ tx src srl P = 62 ∨ tx src srl P = 64)))]) rfl ?_
          refine r_ifb_eq (tgt := 86) hx hb dX2_next_63 (by decide) (fun c_3 => ?_) (fun c_3 => ?_)
          · skip
            have hcs := @cR_s (tx src srl) P
            refine r_iconst hx hb dX2_next_86 ?_
            exact r_iretX hx hb hr hlocks hP hD hS (at2_u60, ((tx src srl P : Nat) : Int), fi, se, la, lt, -1) (rfl) (⟨by (try dsimp only); rw [hsk]; omega, by (try dsimp only); rw [hsk]; omega, by (try dsimp only); rw [hsk]; omega⟩) rfl dX2_next_87
          · skip
            obtain rfl : at2_u60 = P + 1 := by omega
            refine lv_aload_n hx hb dX2_next_66 rfl (lv_at hl 0 rfl) ?_
            refine callVX (n := 0) (As := []) (rest := []) (wc := [(xs, .inr (2, [.ref xr, .int (iI ((P + 1 : Nat) : Int)), .int (iI ((tx src srl P : Nat) : Int)), .int (iI (fi)), .int (iI (se)), .int (iI ((la : Nat) : Int)), .int (iI ((lt : Nat) : Int))])), (xr, .inr (1, [.ref xra, .int (iI ((srl : Nat) : Int))])), (xra, .inl (cI, 80, .inl (rN (src))))]) (wr := []) (ws2 := fun u => [(xs, .inr (2, [.ref xr, .int (iI ((u.1 : Nat) : Int)), .int (iI ((tx src srl P : Nat) : Int)), .int (iI (u.2.1)), .int (iI (u.2.2.1)), .int (iI ((u.2.2.2.1 : Nat) : Int)), .int (iI ((u.2.2.2.2.1 : Nat) : Int))])), (xr, .inr (1, [.ref xra, .int (iI ((srl : Nat) : Int))])), (xra, .inl (cI, 80, .inl (rN (src))))]) S hE hP hD hS hA (t_readRest l D cI cB cZ cO H.size xs xr xra la lt srl fi se src P (by first | assumption | (omega)) (by first | assumption | (omega)) (by first | assumption | (omega)) (by first | assumption | (omega))) gX2_next_X2_readRest rfl ⟨rfl, rfl⟩ (by decide +kernel) ⟨Nat.le_of_ble_eq_true rfl, Nat.le_of_ble_eq_true rfl⟩ [0, 1, 2] [] [0, 1, 2] rfl (by decide) rfl (by decide) (by decide) (by decide) (fun u => rfl) 2 0 rfl rfl rfl hl.1 rfl (Nat.le_of_ble_eq_true rfl) dX2_next_67 ⟨Nat.le_of_ble_eq_true rfl, Nat.le_of_ble_eq_true rfl⟩ (fun u u67p H locs hP hD hS => ?_)
            obtain ⟨at2_u67, fi2_u67, se2_u67, la2_u67, lt2_u67, ok_u67⟩ := u
            obtain ⟨hrz_u67, hro_u67, hok_u67, hatb_u67, hfi_u67, hse_u67, hla_u67⟩ := u67p
            have hrz_u67 : ok_u67 = 0 → cP (tx src srl) P = at2_u67 ∧ cK (tx src srl) P = 0 := hrz_u67
            have hro_u67 : ok_u67 = 1 → cP (tx src srl) P = (fnc (tx src srl) at2_u67).1 ∧ cK (tx src srl) P = (fnc (tx src srl) at2_u67).2 := hro_u67
            have hok_u67 : ok_u67 ≤ 1 := hok_u67
            have hatb_u67 : at2_u67 ≤ P + 15 := hatb_u67
            have hfi_u67 : ok_u67 = 1 → fi2_u67 = ((nV (tx src srl) (P + 1) : Nat) : Int) := hfi_u67
            have hse_u67 : ok_u67 = 1 → tx src srl P = 45 → se2_u67 = ((nV (tx src srl) (nE (tx src srl) (P + 1) + 1) : Nat) : Int) := hse_u67
            have hla_u67 : ok_u67 = 1 → tx src srl P = 43 → la2_u67 = nE (tx src srl) (P + 1) + 1 ∧ lt2_u67 = lts (tx src srl) (nE (tx src srl) (P + 1) + 1) := hla_u67
            have hP : va_P D vwCl [(xs, .inr (2, [.ref xr, .int (iI ((at2_u67 : Nat) : Int)), .int (iI ((tx src srl P : Nat) : Int)), .int (iI (fi2_u67)), .int (iI (se2_u67)), .int (iI ((la2_u67 : Nat) : Int)), .int (iI ((lt2_u67 : Nat) : Int))])), (xr, .inr (1, [.ref xra, .int (iI ((srl : Nat) : Int))])), (xra, .inl (cI, 80, .inl (rN (src))))] H := hP
            have hD : va_D A [(xs, .inr (2, [.ref xr, .int (iI ((at2_u67 : Nat) : Int)), .int (iI ((tx src srl P : Nat) : Int)), .int (iI (fi2_u67)), .int (iI (se2_u67)), .int (iI ((la2_u67 : Nat) : Int)), .int (iI ((lt2_u67 : Nat) : Int))])), (xr, .inr (1, [.ref xra, .int (iI ((srl : Nat) : Int))])), (xra, .inl (cI, 80, .inl (rN (src))))] := hD
            refine W.eq (g2 := F0 m 70 ls [.int (iI ((ok_u67 : Nat) : Int))]) rfl ?_
            refine r_if_eq (tgt := 86) hx hb (by omega) dX2_next_70 (by decide) (fun c_4 => ?_) (fun c_4 => ?_)
            · skip
              have hcs := @cR_s (tx src srl) P
              refine r_iconst hx hb dX2_next_86 ?_
              exact r_iretX hx hb hr hlocks hP hD hS (at2_u67, ((tx src srl P : Nat) : Int), fi2_u67, se2_u67, la2_u67, lt2_u67, -1) (rfl) (⟨by (try dsimp only); rw [hsk]; omega, by (try dsimp only); rw [hsk]; omega, by (try dsimp only); rw [hsk]; omega⟩) rfl dX2_next_87
            · skip
              have hfn := fnc_f (tx src srl) at2_u67
              refine lv_aload_n hx hb dX2_next_73 rfl (lv_at hl 0 rfl) ?_
              refine r_bipush hx hb dX2_next_74 (by decide) ?_
              refine callVX (n := 1) (As := [.int (iI 59)]) (rest := []) (wc := [(xs, .inr (2, [.ref xr, .int (iI ((at2_u67 : Nat) : Int)), .int (iI ((tx src srl P : Nat) : Int)), .int (iI (fi2_u67)), .int (iI (se2_u67)), .int (iI ((la2_u67 : Nat) : Int)), .int (iI ((lt2_u67 : Nat) : Int))])), (xr, .inr (1, [.ref xra, .int (iI ((srl : Nat) : Int))])), (xra, .inl (cI, 80, .inl (rN (src))))]) (wr := []) (ws2 := fun u => [(xs, .inr (2, [.ref xr, .int (iI ((u : Nat) : Int)), .int (iI ((tx src srl P : Nat) : Int)), .int (iI (fi2_u67)), .int (iI (se2_u67)), .int (iI ((la2_u67 : Nat) : Int)), .int (iI ((lt2_u67 : Nat) : Int))])), (xr, .inr (1, [.ref xra, .int (iI ((srl : Nat) : Int))])), (xra, .inl (cI, 80, .inl (rN (src))))]) S hE hP hD hS hA (t_accept l D cI cB cZ cO H.size xs xr xra at2_u67 la2_u67 lt2_u67 srl (((tx src srl P : Nat) : Int)) fi2_u67 se2_u67 src 59 (by first | assumption | (omega)) (by first | assumption | (omega)) (by first | assumption | (omega)) (by first | assumption | (omega))) gX2_next_X2_accept rfl ⟨rfl, rfl⟩ (by decide +kernel) ⟨Nat.le_of_ble_eq_true rfl, Nat.le_of_ble_eq_true rfl⟩ [0, 1, 2] [] [0, 1, 2] rfl (by decide) rfl (by decide) (by decide) (by decide) (fun u => rfl) 2 0 rfl rfl rfl hl.1 rfl (Nat.le_of_ble_eq_true rfl) dX2_next_76 ⟨Nat.le_of_ble_eq_true rfl, Nat.le_of_ble_eq_true rfl⟩ (fun u u76p H locs hP hD hS => ?_)
              generalize u = at2_u76 at u76p hP hD ⊢
              obtain ⟨hat1_u76, hat0_u76⟩ := u76p
              have hat1_u76 : tx src srl at2_u67 = 59 → at2_u76 = at2_u67 + 1 := hat1_u76
              have hat0_u76 : ¬ tx src srl at2_u67 = 59 → at2_u76 = at2_u67 := hat0_u76
              have hP : va_P D vwCl [(xs, .inr (2, [.ref xr, .int (iI ((at2_u76 : Nat) : Int)), .int (iI ((tx src srl P : Nat) : Int)), .int (iI (fi2_u67)), .int (iI (se2_u67)), .int (iI ((la2_u67 : Nat) : Int)), .int (iI ((lt2_u67 : Nat) : Int))])), (xr, .inr (1, [.ref xra, .int (iI ((srl : Nat) : Int))])), (xra, .inl (cI, 80, .inl (rN (src))))] H := hP
              have hD : va_D A [(xs, .inr (2, [.ref xr, .int (iI ((at2_u76 : Nat) : Int)), .int (iI ((tx src srl P : Nat) : Int)), .int (iI (fi2_u67)), .int (iI (se2_u67)), .int (iI ((la2_u67 : Nat) : Int)), .int (iI ((lt2_u67 : Nat) : Int))])), (xr, .inr (1, [.ref xra, .int (iI ((srl : Nat) : Int))])), (xra, .inl (cI, 80, .inl (rN (src))))] := hD
              refine W.eq (g2 := F0 m 79 ls [.int (iI (bI (tx src srl at2_u67 = 59)))]) rfl ?_
              refine r_ifb_eq (tgt := 86) hx hb dX2_next_79 (by decide) (fun c_5 => ?_) (fun c_5 => ?_)
              · skip
                have hcs := @cR_s (tx src srl) P
                refine r_iconst hx hb dX2_next_86 ?_
                exact r_iretX hx hb hr hlocks hP hD hS (at2_u76, ((tx src srl P : Nat) : Int), fi2_u67, se2_u67, la2_u67, lt2_u67, -1) (rfl) (⟨by (try dsimp only); rw [hsk]; omega, by (try dsimp only); rw [hsk]; omega, by (try dsimp only); rw [hsk]; omega⟩) rfl dX2_next_87
              · skip
                refine r_iconst hx hb dX2_next_82 ?_
                refine lv_goto (tgt := 87) hx hb dX2_next_83 (by decide) ?_
                exact r_iretX hx hb hr hlocks hP hD hS (at2_u76, ((tx src srl P : Nat) : Int), fi2_u67, se2_u67, la2_u67, lt2_u67, 1) (rfl) (⟨by (try dsimp only); rw [hsk]; omega, by (try dsimp only); rw [hsk]; omega, by (try dsimp only); rw [hsk]; omega⟩) rfl dX2_next_87
        · skip
          refine r_iconst hx hb dX2_next_57 ?_
          exact r_iretX hx hb hr hlocks hP hD hS (P, sg, fi, se, la, lt, 0) (rfl) (⟨by (try dsimp only); rw [hsk]; omega, by (try dsimp only); rw [hsk]; omega, by (try dsimp only); rw [hsk]; omega⟩) rfl dX2_next_58
      · skip
        refine lv_aload_n hx hb dX2_next_14 rfl (lv_at hl 0 rfl) ?_
        refine va_get (D := D) (ci := 2) (v := .ref xr) (C := RX2) (T := TX2) (N := 7) hx hb hts nX2_next_X2 hown hK hP 0 rfl rfl 0 (by decide) (hts _ kX2_next_14) (fun _ h9 => h9) rfl dX2_next_15 ?_
        refine lv_aload_n hx hb dX2_next_18 rfl (lv_at hl 0 rfl) ?_
        refine va_get (D := D) (ci := 2) (v := .int (iI ((P : Nat) : Int))) (C := RX2) (T := TX2) (N := 7) hx hb hts nX2_next_X2 hown hK hP 0 rfl rfl 1 (by decide) (hts _ kX2_next_20) (fun _ h9 => h9) rfl dX2_next_19 ?_
        refine callVO (n := 1) (As := [.int (iI ((P : Nat) : Int))]) (rest := []) (wc := [(xr, .inr (1, [.ref xra, .int (iI ((srl : Nat) : Int))])), (xra, .inl (cI, 80, .inl (rN (src))))]) S (c_row_codeAt l D cI cB cZ cO xr xra 80 src srl (((P : Nat) : Int)) (by first | assumption | (omega)) (by first | assumption | (omega)) (by first | assumption | (omega))) gX2_next_X1_codeAt rfl ⟨rfl, rfl⟩ (by decide +kernel) ⟨Nat.le_of_ble_eq_true rfl, Nat.le_of_ble_eq_true rfl⟩ hE hP [1, 2] rfl 1 0 rfl rfl rfl hl.1 rfl (Nat.le_of_ble_eq_true rfl) dX2_next_22 ⟨Nat.le_of_ble_eq_true rfl, Nat.le_of_ble_eq_true rfl⟩ ?_
        refine r_bipush hx hb dX2_next_25 (by decide) ?_
        refine r_icmp_ne (tgt := 43) hx hb (by omega) (⟨by decide, by decide⟩) dX2_next_27 (by decide) (fun c_6 => ?_) (fun c_6 => ?_)
        · skip
          have hsk : sk (tx src srl) p1 = P := sk_P iP il (by omega) (by omega)
          refine lv_aload_n hx hb dX2_next_43 rfl (lv_at hl 0 rfl) ?_
          refine va_get (D := D) (ci := 2) (v := .int (iI ((P : Nat) : Int))) (C := RX2) (T := TX2) (N := 7) hx hb hts nX2_next_X2 hown hK hP 0 rfl rfl 1 (by decide) (hts _ kX2_next_20) (fun _ h9 => h9) rfl dX2_next_44 ?_
          refine lv_aload_n hx hb dX2_next_47 rfl (lv_at hl 0 rfl) ?_
          refine va_get (D := D) (ci := 2) (v := .ref xr) (C := RX2) (T := TX2) (N := 7) hx hb hts nX2_next_X2 hown hK hP 0 rfl rfl 0 (by decide) (hts _ kX2_next_14) (fun _ h9 => h9) rfl dX2_next_48 ?_
          refine va_getN (D := D) (ci := 1) (v := .int (iI ((srl : Nat) : Int))) (C := RX1) (T := TX1) (N := 2) hx hb hts nX2_next_X1 hown hK hP 1 rfl rfl 1 (by decide) (va_Nw.use rfl (hE.2.f 2 rfl)) (fun _ h9 => h9) rfl dX2_next_51 ?_
          refine r_icmp_lt (tgt := 59) hx hb (by omega) (by omega) dX2_next_54 (by decide) (fun c_7 => ?_) (fun c_7 => ?_)
          · skip
            refine lv_aload_n hx hb dX2_next_59 rfl (lv_at hl 0 rfl) ?_
            refine callVX (n := 0) (As := []) (rest := []) (wc := [(xs, .inr (2, [.ref xr, .int (iI ((P : Nat) : Int)), .int (iI (sg)), .int (iI (fi)), .int (iI (se)), .int (iI ((la : Nat) : Int)), .int (iI ((lt : Nat) : Int))])), (xr, .inr (1, [.ref xra, .int (iI ((srl : Nat) : Int))])), (xra, .inl (cI, 80, .inl (rN (src))))]) (wr := []) (ws2 := fun u => [(xs, .inr (2, [.ref xr, .int (iI ((u : Nat) : Int)), .int (iI ((tx src srl P : Nat) : Int)), .int (iI (fi)), .int (iI (se)), .int (iI ((la : Nat) : Int)), .int (iI ((lt : Nat) : Int))])), (xr, .inr (1, [.ref xra, .int (iI ((srl : Nat) : Int))])), (xra, .inl (cI, 80, .inl (rN (src))))]) S hE hP hD hS hA (t_readSign l D cI cB cZ cO H.size xs xr xra P la lt srl sg fi se src (by first | assumption | (omega)) (by first | assumption | (omega)) (by first | assumption | (omega))) gX2_next_X2_readSign rfl ⟨rfl, rfl⟩ (by decide +kernel) ⟨Nat.le_of_ble_eq_true rfl, Nat.le_of_ble_eq_true rfl⟩ [0, 1, 2] [] [0, 1, 2] rfl (by decide) rfl (by decide) (by decide) (by decide) (fun u => rfl) 2 0 rfl rfl rfl hl.1 rfl (Nat.le_of_ble_eq_true rfl) dX2_next_60 ⟨Nat.le_of_ble_eq_true rfl, Nat.le_of_ble_eq_true rfl⟩ (fun u u60p H locs hP hD hS => ?_)
            generalize u = at2_u60 at u60p hP hD ⊢
            obtain ⟨hs1_u60, hs0_u60⟩ := u60p
            have hs1_u60 : (tx src srl P = 43 ∨ tx src srl P = 45 ∨ tx src srl P = 60 ∨ tx src srl P = 62 ∨ tx src srl P = 64) → at2_u60 = P + 1 := hs1_u60
            have hs0_u60 : ¬ (tx src srl P = 43 ∨ tx src srl P = 45 ∨ tx src srl P = 60 ∨ tx src srl P = 62 ∨ tx src srl P = 64) → at2_u60 = P := hs0_u60
            have hP : va_P D vwCl [(xs, .inr (2, [.ref xr, .int (iI ((at2_u60 : Nat) : Int)), .int (iI ((tx src srl P : Nat) : Int)), .int (iI (fi)), .int (iI (se)), .int (iI ((la : Nat) : Int)), .int (iI ((lt : Nat) : Int))])), (xr, .inr (1, [.ref xra, .int (iI ((srl : Nat) : Int))])), (xra, .inl (cI, 80, .inl (rN (src))))] H := hP
            have hD : va_D A [(xs, .inr (2, [.ref xr, .int (iI ((at2_u60 : Nat) : Int)), .int (iI ((tx src srl P : Nat) : Int)), .int (iI (fi)), .int (iI (se)), .int (iI ((la : Nat) : Int)), .int (iI ((lt : Nat) : Int))])), (xr, .inr (1, [.ref xra, .int (iI ((srl : Nat) : Int))])), (xra, .inl (cI, 80, .inl (rN (src))))] := hD
            refine W.eq (g2 := F0 m 63 ls [.int (iI (bI (tx src srl P = 43 ∨ tx src srl P = 45 ∨ tx src srl P = 60 ∨ tx src srl P = 62 ∨ tx src srl P = 64)))]) rfl ?_
            refine r_ifb_eq (tgt := 86) hx hb dX2_next_63 (by decide) (fun c_8 => ?_) (fun c_8 => ?_)
            · skip
              have hcs := @cR_s (tx src srl) P
              refine r_iconst hx hb dX2_next_86 ?_
              exact r_iretX hx hb hr hlocks hP hD hS (at2_u60, ((tx src srl P : Nat) : Int), fi, se, la, lt, -1) (rfl) (⟨by (try dsimp only); rw [hsk]; omega, by (try dsimp only); rw [hsk]; omega, by (try dsimp only); rw [hsk]; omega⟩) rfl dX2_next_87
            · skip
              obtain rfl : at2_u60 = P + 1 := by omega
              refine lv_aload_n hx hb dX2_next_66 rfl (lv_at hl 0 rfl) ?_
              refine callVX (n := 0) (As := []) (rest := []) (wc := [(xs, .inr (2, [.ref xr, .int (iI ((P + 1 : Nat) : Int)), .int (iI ((tx src srl P : Nat) : Int)), .int (iI (fi)), .int (iI (se)), .int (iI ((la : Nat) : Int)), .int (iI ((lt : Nat) : Int))])), (xr, .inr (1, [.ref xra, .int (iI ((srl : Nat) : Int))])), (xra, .inl (cI, 80, .inl (rN (src))))]) (wr := []) (ws2 := fun u => [(xs, .inr (2, [.ref xr, .int (iI ((u.1 : Nat) : Int)), .int (iI ((tx src srl P : Nat) : Int)), .int (iI (u.2.1)), .int (iI (u.2.2.1)), .int (iI ((u.2.2.2.1 : Nat) : Int)), .int (iI ((u.2.2.2.2.1 : Nat) : Int))])), (xr, .inr (1, [.ref xra, .int (iI ((srl : Nat) : Int))])), (xra, .inl (cI, 80, .inl (rN (src))))]) S hE hP hD hS hA (t_readRest l D cI cB cZ cO H.size xs xr xra la lt srl fi se src P (by first | assumption | (omega)) (by first | assumption | (omega)) (by first | assumption | (omega)) (by first | assumption | (omega))) gX2_next_X2_readRest rfl ⟨rfl, rfl⟩ (by decide +kernel) ⟨Nat.le_of_ble_eq_true rfl, Nat.le_of_ble_eq_true rfl⟩ [0, 1, 2] [] [0, 1, 2] rfl (by decide) rfl (by decide) (by decide) (by decide) (fun u => rfl) 2 0 rfl rfl rfl hl.1 rfl (Nat.le_of_ble_eq_true rfl) dX2_next_67 ⟨Nat.le_of_ble_eq_true rfl, Nat.le_of_ble_eq_true rfl⟩ (fun u u67p H locs hP hD hS => ?_)
              obtain ⟨at2_u67, fi2_u67, se2_u67, la2_u67, lt2_u67, ok_u67⟩ := u
              obtain ⟨hrz_u67, hro_u67, hok_u67, hatb_u67, hfi_u67, hse_u67, hla_u67⟩ := u67p
              have hrz_u67 : ok_u67 = 0 → cP (tx src srl) P = at2_u67 ∧ cK (tx src srl) P = 0 := hrz_u67
              have hro_u67 : ok_u67 = 1 → cP (tx src srl) P = (fnc (tx src srl) at2_u67).1 ∧ cK (tx src srl) P = (fnc (tx src srl) at2_u67).2 := hro_u67
              have hok_u67 : ok_u67 ≤ 1 := hok_u67
              have hatb_u67 : at2_u67 ≤ P + 15 := hatb_u67
              have hfi_u67 : ok_u67 = 1 → fi2_u67 = ((nV (tx src srl) (P + 1) : Nat) : Int) := hfi_u67
              have hse_u67 : ok_u67 = 1 → tx src srl P = 45 → se2_u67 = ((nV (tx src srl) (nE (tx src srl) (P + 1) + 1) : Nat) : Int) := hse_u67
              have hla_u67 : ok_u67 = 1 → tx src srl P = 43 → la2_u67 = nE (tx src srl) (P + 1) + 1 ∧ lt2_u67 = lts (tx src srl) (nE (tx src srl) (P + 1) + 1) := hla_u67
              have hP : va_P D vwCl [(xs, .inr (2, [.ref xr, .int (iI ((at2_u67 : Nat) : Int)), .int (iI ((tx src srl P : Nat) : Int)), .int (iI (fi2_u67)), .int (iI (se2_u67)), .int (iI ((la2_u67 : Nat) : Int)), .int (iI ((lt2_u67 : Nat) : Int))])), (xr, .inr (1, [.ref xra, .int (iI ((srl : Nat) : Int))])), (xra, .inl (cI, 80, .inl (rN (src))))] H := hP
              have hD : va_D A [(xs, .inr (2, [.ref xr, .int (iI ((at2_u67 : Nat) : Int)), .int (iI ((tx src srl P : Nat) : Int)), .int (iI (fi2_u67)), .int (iI (se2_u67)), .int (iI ((la2_u67 : Nat) : Int)), .int (iI ((lt2_u67 : Nat) : Int))])), (xr, .inr (1, [.ref xra, .int (iI ((srl : Nat) : Int))])), (xra, .inl (cI, 80, .inl (rN (src))))] := hD
              refine W.eq (g2 := F0 m 70 ls [.int (iI ((ok_u67 : Nat) : Int))]) rfl ?_
              refine r_if_eq (tgt := 86) hx hb (by omega) dX2_next_70 (by decide) (fun c_9 => ?_) (fun c_9 => ?_)
              · skip
                have hcs := @cR_s (tx src srl) P
                refine r_iconst hx hb dX2_next_86 ?_
                exact r_iretX hx hb hr hlocks hP hD hS (at2_u67, ((tx src srl P : Nat) : Int), fi2_u67, se2_u67, la2_u67, lt2_u67, -1) (rfl) (⟨by (try dsimp only); rw [hsk]; omega, by (try dsimp only); rw [hsk]; omega, by (try dsimp only); rw [hsk]; omega⟩) rfl dX2_next_87
              · skip
                have hfn := fnc_f (tx src srl) at2_u67
                refine lv_aload_n hx hb dX2_next_73 rfl (lv_at hl 0 rfl) ?_
                refine r_bipush hx hb dX2_next_74 (by decide) ?_
                refine callVX (n := 1) (As := [.int (iI 59)]) (rest := []) (wc := [(xs, .inr (2, [.ref xr, .int (iI ((at2_u67 : Nat) : Int)), .int (iI ((tx src srl P : Nat) : Int)), .int (iI (fi2_u67)), .int (iI (se2_u67)), .int (iI ((la2_u67 : Nat) : Int)), .int (iI ((lt2_u67 : Nat) : Int))])), (xr, .inr (1, [.ref xra, .int (iI ((srl : Nat) : Int))])), (xra, .inl (cI, 80, .inl (rN (src))))]) (wr := []) (ws2 := fun u => [(xs, .inr (2, [.ref xr, .int (iI ((u : Nat) : Int)), .int (iI ((tx src srl P : Nat) : Int)), .int (iI (fi2_u67)), .int (iI (se2_u67)), .int (iI ((la2_u67 : Nat) : Int)), .int (iI ((lt2_u67 : Nat) : Int))])), (xr, .inr (1, [.ref xra, .int (iI ((srl : Nat) : Int))])), (xra, .inl (cI, 80, .inl (rN (src))))]) S hE hP hD hS hA (t_accept l D cI cB cZ cO H.size xs xr xra at2_u67 la2_u67 lt2_u67 srl (((tx src srl P : Nat) : Int)) fi2_u67 se2_u67 src 59 (by first | assumption | (omega)) (by first | assumption | (omega)) (by first | assumption | (omega)) (by first | assumption | (omega))) gX2_next_X2_accept rfl ⟨rfl, rfl⟩ (by decide +kernel) ⟨Nat.le_of_ble_eq_true rfl, Nat.le_of_ble_eq_true rfl⟩ [0, 1, 2] [] [0, 1, 2] rfl (by decide) rfl (by decide) (by decide) (by decide) (fun u => rfl) 2 0 rfl rfl rfl hl.1 rfl (Nat.le_of_ble_eq_true rfl) dX2_next_76 ⟨Nat.le_of_ble_eq_true rfl, Nat.le_of_ble_eq_true rfl⟩ (fun u u76p H locs hP hD hS => ?_)
                generalize u = at2_u76 at u76p hP hD ⊢
                obtain ⟨hat1_u76, hat0_u76⟩ := u76p
                have hat1_u76 : tx src srl at2_u67 = 59 → at2_u76 = at2_u67 + 1 := hat1_u76
                have hat0_u76 : ¬ tx src srl at2_u67 = 59 → at2_u76 = at2_u67 := hat0_u76
                have hP : va_P D vwCl [(xs, .inr (2, [.ref xr, .int (iI ((at2_u76 : Nat) : Int)), .int (iI ((tx src srl P : Nat) : Int)), .int (iI (fi2_u67)), .int (iI (se2_u67)), .int (iI ((la2_u67 : Nat) : Int)), .int (iI ((lt2_u67 : Nat) : Int))])), (xr, .inr (1, [.ref xra, .int (iI ((srl : Nat) : Int))])), (xra, .inl (cI, 80, .inl (rN (src))))] H := hP
                have hD : va_D A [(xs, .inr (2, [.ref xr, .int (iI ((at2_u76 : Nat) : Int)), .int (iI ((tx src srl P : Nat) : Int)), .int (iI (fi2_u67)), .int (iI (se2_u67)), .int (iI ((la2_u67 : Nat) : Int)), .int (iI ((lt2_u67 : Nat) : Int))])), (xr, .inr (1, [.ref xra, .int (iI ((srl : Nat) : Int))])), (xra, .inl (cI, 80, .inl (rN (src))))] := hD
                refine W.eq (g2 := F0 m 79 ls [.int (iI (bI (tx src srl at2_u67 = 59)))]) rfl ?_
                refine r_ifb_eq (tgt := 86) hx hb dX2_next_79 (by decide) (fun c_10 => ?_) (fun c_10 => ?_)
                · skip
                  have hcs := @cR_s (tx src srl) P
                  refine r_iconst hx hb dX2_next_86 ?_
                  exact r_iretX hx hb hr hlocks hP hD hS (at2_u76, ((tx src srl P : Nat) : Int), fi2_u67, se2_u67, la2_u67, lt2_u67, -1) (rfl) (⟨by (try dsimp only); rw [hsk]; omega, by (try dsimp only); rw [hsk]; omega, by (try dsimp only); rw [hsk]; omega⟩) rfl dX2_next_87
                · skip
                  refine r_iconst hx hb dX2_next_82 ?_
                  refine lv_goto (tgt := 87) hx hb dX2_next_83 (by decide) ?_
                  exact r_iretX hx hb hr hlocks hP hD hS (at2_u76, ((tx src srl P : Nat) : Int), fi2_u67, se2_u67, la2_u67, lt2_u67, 1) (rfl) (⟨by (try dsimp only); rw [hsk]; omega, by (try dsimp only); rw [hsk]; omega, by (try dsimp only); rw [hsk]; omega⟩) rfl dX2_next_87
          · skip
            refine r_iconst hx hb dX2_next_57 ?_
            exact r_iretX hx hb hr hlocks hP hD hS (P, sg, fi, se, la, lt, 0) (rfl) (⟨by (try dsimp only); rw [hsk]; omega, by (try dsimp only); rw [hsk]; omega, by (try dsimp only); rw [hsk]; omega⟩) rfl dX2_next_58
        · skip
          refine lv_aload_n hx hb dX2_next_30 rfl (lv_at hl 0 rfl) ?_
          refine lv_dup hx hb dX2_next_31 rfl ?_
          refine va_get (D := D) (ci := 2) (v := .int (iI ((P : Nat) : Int))) (C := RX2) (T := TX2) (N := 7) hx hb hts nX2_next_X2 hown hK hP 0 rfl rfl 1 (by decide) (hts _ kX2_next_20) (fun _ h9 => h9) rfl dX2_next_32 ?_
          refine r_iconst hx hb dX2_next_35 ?_
          refine r_iadd (v := ((P + 1 : Nat) : Int)) hx hb (rfl) dX2_next_36 ?_
          refine va_put (D := D) (ci := 2) (v := .int (iI ((P + 1 : Nat) : Int))) (ty := .int) (C := RX2) (T := TX2) (N := 7) hx hb hts nX2_next_X2 tyX2 tyX2_ok nmX2 hown hK hP hD hS 0 rfl rfl 1 (by decide) (hts _ kX2_next_20) (fun _ h9 => h9) rfl (by decide +kernel) rfl rfl (Nat.le_of_ble_eq_true rfl) dX2_next_37 (fun H locs hP hD hS => ?_)
          have hP : va_P D vwCl [(xs, .inr (2, [.ref xr, .int (iI ((P + 1 : Nat) : Int)), .int (iI (sg)), .int (iI (fi)), .int (iI (se)), .int (iI ((la : Nat) : Int)), .int (iI ((lt : Nat) : Int))])), (xr, .inr (1, [.ref xra, .int (iI ((srl : Nat) : Int))])), (xra, .inl (cI, 80, .inl (rN (src))))] H := hP
          have hD : va_D A [(xs, .inr (2, [.ref xr, .int (iI ((P + 1 : Nat) : Int)), .int (iI (sg)), .int (iI (fi)), .int (iI (se)), .int (iI ((la : Nat) : Int)), .int (iI ((lt : Nat) : Int))])), (xr, .inr (1, [.ref xra, .int (iI ((srl : Nat) : Int))])), (xra, .inl (cI, 80, .inl (rN (src))))] := hD
          refine lv_goto (tgt := 0) hx hb dX2_next_40 (by decide) ?_
          exact ih_0 (P + 1) (by omega) (by first | assumption | (omega)) (by exact run_P il (by omega)) (by first | assumption | (omega)) H locs hP hD hS ls (lv_sub hl [0] rfl)
  exact loop_0 ((srl - p1) + 1) p1 (by omega) (by first | assumption | (omega)) (by intro j h1 h2; omega) (by first | assumption | (omega)) s.heap [] hP hD hS ls (lv_sub hl [0] rfl)

theorem kX2_firstError_20 : Cond.fieldLink RX2 20 "PricedUndo$Script" "at" "I" ∈ wsX2_firstError := List.mem_of_getElem? (i := 1) (by decide +kernel)
theorem nX2_firstError_X2 : ∀ w ∈ u_ws RX2 TX2 7, w ∈ wsX2_firstError := in_lay 54 (by decide +kernel)
set_option maxHeartbeats 4000000 in
set_option maxRecDepth 100000 in
theorem t_firstError (l : Launch) (D : va_G) (cI cB cZ cO : ClassId) (sz : Nat) (xs : Nat) (xr : Nat) (xra : Nat) (p1 : Nat) (la : Nat) (lt : Nat) (srl : Nat) (sg : Int) (fi : Int) (se : Int) (src : Nat → Nat) (hrl : srl ≤ 80) (hsc : ∀ k, src k < 256) : Met l yX2_firstError wsX2_firstError ({ frames := 5, cells := 0, slots := 0, locals := 102 }) (va_Pc [.ref xs] (RW D cI cB cZ cO sz [(xs, .inr (2, [.ref xr, .int (iI ((p1 : Nat) : Int)), .int (iI (sg)), .int (iI (fi)), .int (iI (se)), .int (iI ((la : Nat) : Int)), .int (iI ((lt : Nat) : Int))])), (xr, .inr (1, [.ref xra, .int (iI ((srl : Nat) : Int))])), (xra, .inl (cI, 80, .inl (rN (src))))])) (QX D (S := Nat × Int × Int × Int × Nat × Nat) (fun u => some (.int (iI (erP (tx src srl) srl 0)))) (fun u => True) (fun u => [(xs, .inr (2, [.ref xr, .int (iI ((u.1 : Nat) : Int)), .int (iI (u.2.1)), .int (iI (u.2.2.1)), .int (iI (u.2.2.2.1)), .int (iI ((u.2.2.2.2.1 : Nat) : Int)), .int (iI ((u.2.2.2.2.2 : Nat) : Int))])), (xr, .inr (1, [.ref xra, .int (iI ((srl : Nat) : Int))])), (xra, .inl (cI, 80, .inl (rN (src))))]) (va_A [(xs, .inr (2, [.ref xr, .int (iI ((p1 : Nat) : Int)), .int (iI (sg)), .int (iI (fi)), .int (iI (se)), .int (iI ((la : Nat) : Int)), .int (iI ((lt : Nat) : Int))])), (xr, .inr (1, [.ref xra, .int (iI ((srl : Nat) : Int))])), (xra, .inl (cI, 80, .inl (rN (src))))] sz)) 0 0 (va_A [(xs, .inr (2, [.ref xr, .int (iI ((p1 : Nat) : Int)), .int (iI (sg)), .int (iI (fi)), .int (iI (se)), .int (iI ((la : Nat) : Int)), .int (iI ((lt : Nat) : Int))])), (xr, .inr (1, [.ref xra, .int (iI ((srl : Nat) : Int))])), (xra, .inl (cI, 80, .inl (rN (src))))] sz) := by
  refine startW (cc := cX2_firstError) (maxL := 3) (ret := (some .int)) (by decide) rfl (Nat.le_of_ble_eq_true rfl) ?_
  intro p e s m below meth c S hr hlocks hE hP A hD hA hS ls hl
  have hx := S.1
  have hb := S.2.1
  have hown := S.2.2.2.1
  have hts := S.2.2.2.2
  have hK := hE.1
  have hl : lv_has ls 3 [(0, .ref xs)] := hl
  refine lv_aload_n hx hb dX2_firstError_0 rfl (lv_at hl 0 rfl) ?_
  refine callVX (n := 0) (As := []) (rest := []) (wc := [(xs, .inr (2, [.ref xr, .int (iI ((p1 : Nat) : Int)), .int (iI (sg)), .int (iI (fi)), .int (iI (se)), .int (iI ((la : Nat) : Int)), .int (iI ((lt : Nat) : Int))]))]) (wr := [(xr, .inr (1, [.ref xra, .int (iI ((srl : Nat) : Int))])), (xra, .inl (cI, 80, .inl (rN (src))))]) (ws2 := fun u => [(xs, .inr (2, [.ref xr, .int (iI 0), .int (iI (sg)), .int (iI (fi)), .int (iI (se)), .int (iI ((la : Nat) : Int)), .int (iI ((lt : Nat) : Int))])), (xr, .inr (1, [.ref xra, .int (iI ((srl : Nat) : Int))])), (xra, .inl (cI, 80, .inl (rN (src))))]) S hE hP hD hS hA (t_rewind l D cI cB cZ cO s.heap.size xs xr xra p1 la lt srl sg fi se src ) gX2_firstError_X2_rewind rfl ⟨rfl, rfl⟩ (by decide +kernel) ⟨Nat.le_of_ble_eq_true rfl, Nat.le_of_ble_eq_true rfl⟩ [0] [1, 2] [2, 0, 1] rfl (by decide) rfl (by decide) (by decide) (by decide) (fun u => rfl) 2 0 rfl rfl rfl hl.1 rfl (Nat.le_of_ble_eq_true rfl) dX2_firstError_1 ⟨Nat.le_of_ble_eq_true rfl, Nat.le_of_ble_eq_true rfl⟩ (fun u u1p H locs hP hD hS => ?_)
  have hP : va_P D vwCl [(xs, .inr (2, [.ref xr, .int (iI 0), .int (iI (sg)), .int (iI (fi)), .int (iI (se)), .int (iI ((la : Nat) : Int)), .int (iI ((lt : Nat) : Int))])), (xr, .inr (1, [.ref xra, .int (iI ((srl : Nat) : Int))])), (xra, .inl (cI, 80, .inl (rN (src))))] H := hP
  have hD : va_D A [(xs, .inr (2, [.ref xr, .int (iI 0), .int (iI (sg)), .int (iI (fi)), .int (iI (se)), .int (iI ((la : Nat) : Int)), .int (iI ((lt : Nat) : Int))])), (xr, .inr (1, [.ref xra, .int (iI ((srl : Nat) : Int))])), (xra, .inl (cI, 80, .inl (rN (src))))] := hD
  refine W.eq (g2 := F0 m 4 ls []) rfl ?_
  refine r_iconst hx hb dX2_firstError_4 ?_
  refine lv_istore_n (lv' := [(1, .int (iI 1)), (0, .ref xs)]) hx hb dX2_firstError_5 rfl hl (by decide) rfl (fun ls hl => ?_)
  refine r_iconst hx hb dX2_firstError_6 ?_
  refine lv_istore_n (lv' := [(2, .int (iI 0)), (1, .int (iI 1)), (0, .ref xs)]) hx hb dX2_firstError_7 rfl hl (by decide) rfl (fun ls hl => ?_)
  have loop_8 : ∀ (n_8 : Nat) (rd : Int) (i : Nat) (at9 : Nat) (sg9 : Int) (fi9 : Int) (se9 : Int) (la9 : Nat) (lt9 : Nat), (81 - i) < n_8 → (i ≤ 81) → (at9 ≤ 96) → ((rd = 1 ∧ erP (tx src srl) srl 0 = erP (tx src srl) srl at9 ∧ i ≤ at9) ∨ (rd = 0 ∧ erP (tx src srl) srl 0 = -9) ∨ (rd = -1 ∧ erP (tx src srl) srl 0 = (at9 : Int))) → ∀ (H : Heap) (locs : List Loc), va_P D vwCl [(xs, .inr (2, [.ref xr, .int (iI ((at9 : Nat) : Int)), .int (iI (sg9)), .int (iI (fi9)), .int (iI (se9)), .int (iI ((la9 : Nat) : Int)), .int (iI ((lt9 : Nat) : Int))])), (xr, .inr (1, [.ref xra, .int (iI ((srl : Nat) : Int))])), (xra, .inl (cI, 80, .inl (rN (src))))] H → va_D A [(xs, .inr (2, [.ref xr, .int (iI ((at9 : Nat) : Int)), .int (iI (sg9)), .int (iI (fi9)), .int (iI (se9)), .int (iI ((la9 : Nat) : Int)), .int (iI ((lt9 : Nat) : Int))])), (xr, .inr (1, [.ref xra, .int (iI ((srl : Nat) : Int))])), (xra, .inl (cI, 80, .inl (rN (src))))] → va_S A s.heap H locs → ∀ (ls : Array Slot), lv_has ls 3 [(0, .ref xs), (1, .int (iI (rd))), (2, .int (iI ((i : Nat) : Int)))] → W p l e ({ frames := 5, cells := 0, slots := 0, locals := 102 }) s m ([.ref xs] : List Value).toArray below meth c H locs 0 0 (MQ below (QX D (S := Nat × Int × Int × Int × Nat × Nat) (fun u => some (.int (iI (erP (tx src srl) srl 0)))) (fun u => True) (fun u => [(xs, .inr (2, [.ref xr, .int (iI ((u.1 : Nat) : Int)), .int (iI (u.2.1)), .int (iI (u.2.2.1)), .int (iI (u.2.2.2.1)), .int (iI ((u.2.2.2.2.1 : Nat) : Int)), .int (iI ((u.2.2.2.2.2 : Nat) : Int))])), (xr, .inr (1, [.ref xra, .int (iI ((srl : Nat) : Int))])), (xra, .inl (cI, 80, .inl (rN (src))))]) A) ([.ref xs] : List Value).toArray s 0 0 A) (F0 m 8 ls []) := by
    intro n_8
    induction n_8 with
    | zero => intro rd i at9 sg9 fi9 se9 la9 lt9 h_meas; exact absurd h_meas (Nat.not_lt_zero _)
    | succ n_8 ih_8 =>
      intro rd i at9 sg9 fi9 se9 la9 lt9 h_m8 ii9 iat ird H locs hP hD hS ls hl
      have heu := erP_u (tx src srl) srl at9
      have hsk9 := sk_ge (tx src srl) at9
      have hcb := @cP_b (tx src srl) (sk (tx src srl) at9)
      have hskb : sk (tx src srl) at9 ≤ 96 := by have h9 := stp_le (fun j => decide (tx src srl j = 32)) at9 80; unfold sk; omega
      refine lv_iload_n hx hb dX2_firstError_8 rfl (lv_at hl 2 rfl) ?_
      refine r_bipush hx hb dX2_firstError_9 (by decide) ?_
      refine r_icmp_gt (tgt := 30) hx hb (by omega) (⟨by decide, by decide⟩) dX2_firstError_11 (by decide) (fun c_1 => ?_) (fun c_1 => ?_)
      · skip
        refine lv_iload_n hx hb dX2_firstError_30 rfl (lv_at hl 1 rfl) ?_
        refine r_iconst hx hb dX2_firstError_31 ?_
        refine r_icmp_ne (tgt := 42) hx hb (by omega) (⟨by decide, by decide⟩) dX2_firstError_32 (by decide) (fun c_2 => ?_) (fun c_2 => ?_)
        · skip
          refine r_bipush hx hb dX2_firstError_42 (by decide) ?_
          exact r_iretX hx hb hr hlocks hP hD hS (at9, sg9, fi9, se9, la9, lt9) (congrArg (fun z => some (Value.int (iI z))) ((by omega : (-9) = (erP (tx src srl) srl 0)).symm)) (trivial) rfl dX2_firstError_44
        · skip
          refine lv_aload_n hx hb dX2_firstError_35 rfl (lv_at hl 0 rfl) ?_
          refine va_get (D := D) (ci := 2) (v := .int (iI ((at9 : Nat) : Int))) (C := RX2) (T := TX2) (N := 7) hx hb hts nX2_firstError_X2 hown hK hP 0 rfl rfl 1 (by decide) (hts _ kX2_firstError_20) (fun _ h9 => h9) rfl dX2_firstError_36 ?_
          refine lv_goto (tgt := 44) hx hb dX2_firstError_39 (by decide) ?_
          exact r_iretX hx hb hr hlocks hP hD hS (at9, sg9, fi9, se9, la9, lt9) (congrArg (fun z => some (Value.int (iI z))) ((by omega : ((at9 : Nat) : Int) = (erP (tx src srl) srl 0)).symm)) (trivial) rfl dX2_firstError_44
      · skip
        refine lv_iload_n hx hb dX2_firstError_14 rfl (lv_at hl 1 rfl) ?_
        refine r_iconst hx hb dX2_firstError_15 ?_
        refine r_icmp_ne (tgt := 30) hx hb (by omega) (⟨by decide, by decide⟩) dX2_firstError_16 (by decide) (fun c_3 => ?_) (fun c_3 => ?_)
        · skip
          refine lv_iload_n hx hb dX2_firstError_30 rfl (lv_at hl 1 rfl) ?_
          refine r_iconst hx hb dX2_firstError_31 ?_
          refine r_icmp_ne (tgt := 42) hx hb (by omega) (⟨by decide, by decide⟩) dX2_firstError_32 (by decide) (fun c_4 => ?_) (fun c_4 => ?_)
          · skip
            refine r_bipush hx hb dX2_firstError_42 (by decide) ?_
            exact r_iretX hx hb hr hlocks hP hD hS (at9, sg9, fi9, se9, la9, lt9) (congrArg (fun z => some (Value.int (iI z))) ((by omega : (-9) = (erP (tx src srl) srl 0)).symm)) (trivial) rfl dX2_firstError_44
          · skip
            refine lv_aload_n hx hb dX2_firstError_35 rfl (lv_at hl 0 rfl) ?_
            refine va_get (D := D) (ci := 2) (v := .int (iI ((at9 : Nat) : Int))) (C := RX2) (T := TX2) (N := 7) hx hb hts nX2_firstError_X2 hown hK hP 0 rfl rfl 1 (by decide) (hts _ kX2_firstError_20) (fun _ h9 => h9) rfl dX2_firstError_36 ?_
            refine lv_goto (tgt := 44) hx hb dX2_firstError_39 (by decide) ?_
            exact r_iretX hx hb hr hlocks hP hD hS (at9, sg9, fi9, se9, la9, lt9) (congrArg (fun z => some (Value.int (iI z))) ((by omega : ((at9 : Nat) : Int) = (erP (tx src srl) srl 0)).symm)) (trivial) rfl dX2_firstError_44
        · skip
          refine lv_aload_n hx hb dX2_firstError_19 rfl (lv_at hl 0 rfl) ?_
          refine callVX (n := 0) (As := []) (rest := []) (wc := [(xs, .inr (2, [.ref xr, .int (iI ((at9 : Nat) : Int)), .int (iI (sg9)), .int (iI (fi9)), .int (iI (se9)), .int (iI ((la9 : Nat) : Int)), .int (iI ((lt9 : Nat) : Int))])), (xr, .inr (1, [.ref xra, .int (iI ((srl : Nat) : Int))])), (xra, .inl (cI, 80, .inl (rN (src))))]) (wr := []) (ws2 := fun u => [(xs, .inr (2, [.ref xr, .int (iI ((u.1 : Nat) : Int)), .int (iI (u.2.1)), .int (iI (u.2.2.1)), .int (iI (u.2.2.2.1)), .int (iI ((u.2.2.2.2.1 : Nat) : Int)), .int (iI ((u.2.2.2.2.2.1 : Nat) : Int))])), (xr, .inr (1, [.ref xra, .int (iI ((srl : Nat) : Int))])), (xra, .inl (cI, 80, .inl (rN (src))))]) S hE hP hD hS hA (t_next l D cI cB cZ cO H.size xs xr xra at9 la9 lt9 srl sg9 fi9 se9 src (by first | assumption | (omega)) (by first | assumption | (omega)) (by first | assumption | (omega))) gX2_firstError_X2_next rfl ⟨rfl, rfl⟩ (by decide +kernel) ⟨Nat.le_of_ble_eq_true rfl, Nat.le_of_ble_eq_true rfl⟩ [0, 1, 2] [] [0, 1, 2] rfl (by decide) rfl (by decide) (by decide) (by decide) (fun u => rfl) 2 0 rfl rfl rfl hl.1 rfl (Nat.le_of_ble_eq_true rfl) dX2_firstError_20 ⟨Nat.le_of_ble_eq_true rfl, Nat.le_of_ble_eq_true rfl⟩ (fun u u20p H locs hP hD hS => ?_)
          obtain ⟨at2_u20, sg2_u20, fi2_u20, se2_u20, la2_u20, lt2_u20, nr_u20⟩ := u
          obtain ⟨hne0_u20, hne1_u20, hne2_u20⟩ := u20p
          have hne0_u20 : ¬ sk (tx src srl) at9 < srl → nr_u20 = 0 ∧ at2_u20 = sk (tx src srl) at9 := hne0_u20
          have hne1_u20 : sk (tx src srl) at9 < srl → at2_u20 = cP (tx src srl) (sk (tx src srl) at9) ∧ ((cK (tx src srl) (sk (tx src srl) at9) = 1 ∧ nr_u20 = 1) ∨ (cK (tx src srl) (sk (tx src srl) at9) = 0 ∧ nr_u20 = -1)) := hne1_u20
          have hne2_u20 : sk (tx src srl) at9 < srl → cK (tx src srl) (sk (tx src srl) at9) = 1 → sg2_u20 = ((tx src srl (sk (tx src srl) at9) : Nat) : Int) ∧ fi2_u20 = ((nV (tx src srl) (sk (tx src srl) at9 + 1) : Nat) : Int) ∧ (tx src srl (sk (tx src srl) at9) = 45 → se2_u20 = ((nV (tx src srl) (nE (tx src srl) (sk (tx src srl) at9 + 1) + 1) : Nat) : Int)) ∧ (tx src srl (sk (tx src srl) at9) = 43 → la2_u20 = nE (tx src srl) (sk (tx src srl) at9 + 1) + 1 ∧ lt2_u20 = lts (tx src srl) (nE (tx src srl) (sk (tx src srl) at9 + 1) + 1)) := hne2_u20
          have hP : va_P D vwCl [(xs, .inr (2, [.ref xr, .int (iI ((at2_u20 : Nat) : Int)), .int (iI (sg2_u20)), .int (iI (fi2_u20)), .int (iI (se2_u20)), .int (iI ((la2_u20 : Nat) : Int)), .int (iI ((lt2_u20 : Nat) : Int))])), (xr, .inr (1, [.ref xra, .int (iI ((srl : Nat) : Int))])), (xra, .inl (cI, 80, .inl (rN (src))))] H := hP
          have hD : va_D A [(xs, .inr (2, [.ref xr, .int (iI ((at2_u20 : Nat) : Int)), .int (iI (sg2_u20)), .int (iI (fi2_u20)), .int (iI (se2_u20)), .int (iI ((la2_u20 : Nat) : Int)), .int (iI ((lt2_u20 : Nat) : Int))])), (xr, .inr (1, [.ref xra, .int (iI ((srl : Nat) : Int))])), (xra, .inl (cI, 80, .inl (rN (src))))] := hD
          refine W.eq (g2 := F0 m 23 ls [.int (iI (nr_u20))]) rfl ?_
          refine lv_istore_n (lv' := [(1, .int (iI (nr_u20))), (0, .ref xs), (2, .int (iI ((i : Nat) : Int)))]) hx hb dX2_firstError_23 rfl hl (by decide) rfl (fun ls hl => ?_)
          refine lv_iinc (v := iI ((i + 1 : Nat) : Int)) (lv' := [(2, .int (iI ((i + 1 : Nat) : Int))), (1, .int (iI (nr_u20))), (0, .ref xs)]) hx hb dX2_firstError_24 hl (k := 2) rfl ((iI_add _ _).trans (ii (rfl))) (by decide) rfl (fun ls hl => ?_)
          refine lv_goto (tgt := 8) hx hb dX2_firstError_27 (by decide) ?_
          exact ih_8 nr_u20 (i + 1) at2_u20 sg2_u20 fi2_u20 se2_u20 la2_u20 lt2_u20 (by omega) (by first | assumption | (omega)) (by first | assumption | (omega)) (by by_cases z9 : sk (tx src srl) at9 < srl; (rw [(hne1_u20 z9).1]; omega); omega) H locs hP hD hS ls (lv_sub hl [2, 1, 0] rfl)
  have hl : lv_has ls 3 [(2, .int (iI 0)), (1, .int (iI (1))), (0, .ref xs)] := lv_chg hl 1 1 rfl (show (1 : Int) = (1) from by omega) rfl
  exact loop_8 ((81 - 0) + 1) 1 0 0 sg fi se la lt (by omega) (by first | assumption | (omega)) (by first | assumption | (omega)) (by first | assumption | (omega)) H locs hP hD hS ls (lv_sub hl [2, 1, 0] rfl)
