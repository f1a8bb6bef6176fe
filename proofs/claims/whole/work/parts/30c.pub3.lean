theorem kX4_carried_28 : Cond.fieldLink RX4 28 "PricedUndo" "buffer" "LPricedUndo$Buffer;" ∈ wsX4_carried := by decide +kernel
theorem nX4_carried_X4 : ∀ w ∈ u_ws RX4 TX4 7, w ∈ wsX4_carried := by decide +kernel
set_option maxHeartbeats 4000000 in
set_option maxRecDepth 100000 in
theorem p_carried_place (l : Launch) (D : va_G) (cI cB cZ cO : ClassId) (xp : Nat) (xc : Nat) (xs : Nat) (xq : Nat) (xl : Nat) (ag : Nat) (di : Nat) (h : Nat) (a1 : Nat) (a2 : Nat) (a3 : Nat) (a4 : Nat) (a5 : Nat) (tt : Nat) (ln : Nat) (ed : Nat) (es : Nat) (ac : Nat) (cu : Nat) (x : Int) (y : Int) (hln : ln ≤ 60) (rx : rg x) (ry : rg y) (hbad : ¬ (0 ≤ y ∧ y < (ln : Int))) : Met l yX4_carried wsX4_carried ({ frames := 1, cells := 0, slots := 0, locals := 21 }) (va_Pc [.ref xp, .int (iI (x)), .int (iI (y))] (RO D cI cB cZ cO [(xp, .inr (4, [.ref xc, .ref xs, .ref h, .ref xq, .ref xl, .int (iI ((ag : Nat) : Int)), .int (iI ((di : Nat) : Int))])), (h, .inr (0, [.ref a1, .ref a2, .ref a3, .int (iI ((tt : Nat) : Int)), .ref a4, .int (iI ((ln : Nat) : Int)), .ref a5, .int (iI ((ed : Nat) : Int)), .int (iI ((es : Nat) : Int)), .int (iI ((ac : Nat) : Int)), .int (iI ((cu : Nat) : Int))]))])) (QO (-1)) 0 0 (fun _ => False) := by
  refine startO (cc := cX4_carried) (maxL := 4) (ret := (some .int)) (by decide) rfl (Nat.le_of_ble_eq_true rfl) ?_
  intro p e s m below meth c S hr hlocks hE hP ls hl
  have hx := S.1
  have hb := S.2.1
  have hown := S.2.2.2.1
  have hts := S.2.2.2.2
  have hK := hE.1
  have hl : lv_has ls 4 [(0, .ref xp), (1, .int (iI (x))), (2, .int (iI (y)))] := hl
  refine lv_aload_n hx hb dX4_carried_0 rfl (lv_at hl 0 rfl) ?_
  refine va_get (D := D) (ci := 4) (v := .ref h) (C := RX4) (T := TX4) (N := 7) hx hb hts nX4_carried_X4 hown hK hP 0 rfl rfl 2 (by decide) (hts _ kX4_carried_28) (fun _ h9 => h9) rfl dX4_carried_1 ?_
  refine lv_iload_n hx hb dX4_carried_4 rfl (lv_at hl 2 rfl) ?_
  refine callVO (n := 1) (As := [.int (iI (y))]) (rest := []) (wc := [(h, .inr (0, [.ref a1, .ref a2, .ref a3, .int (iI ((tt : Nat) : Int)), .ref a4, .int (iI ((ln : Nat) : Int)), .ref a5, .int (iI ((ed : Nat) : Int)), .int (iI ((es : Nat) : Int)), .int (iI ((ac : Nat) : Int)), .int (iI ((cu : Nat) : Int))]))]) S (c_hasPlace l D cI cB cZ cO h a1 a2 a3 a4 a5 tt ln ed es ac cu y (by first | assumption | (omega)) (by first | assumption | (omega))) gX4_carried_X0_hasPlace rfl ⟨rfl, rfl⟩ (by decide +kernel) ⟨Nat.le_of_ble_eq_true rfl, Nat.le_of_ble_eq_true rfl⟩ hE hP [1] rfl 0 0 rfl rfl rfl hl.1 rfl (Nat.le_of_ble_eq_true rfl) dX4_carried_5 ⟨Nat.le_of_ble_eq_true rfl, Nat.le_of_ble_eq_true rfl⟩ ?_
  refine r_ifb_ne (tgt := 13) hx hb dX4_carried_8 (by decide) (fun c_1 => ?_) (fun c_1 => ?_)
  · skip
    exfalso; exact hbad (by assumption)
  · skip
    refine r_iconst hx hb dX4_carried_11 ?_
    exact r_iretO hx hb hr hlocks (rfl) dX4_carried_12

set_option maxHeartbeats 4000000 in
set_option maxRecDepth 100000 in
theorem p_carried_bad (l : Launch) (D : va_G) (cI cB cZ cO : ClassId) (xp : Nat) (xc : Nat) (xs : Nat) (xq : Nat) (xl : Nat) (ag : Nat) (di : Nat) (h : Nat) (a1 : Nat) (a2 : Nat) (a3 : Nat) (a4 : Nat) (a5 : Nat) (tt : Nat) (ln : Nat) (ed : Nat) (es : Nat) (ac : Nat) (cu : Nat) (x : Int) (j : Nat) (hln : ln ≤ 60) (hed : ed ≤ 16) (rx : rg x) (hj : j < ln) (hbad : ¬ (0 ≤ x ∧ x < ((2 ^ ed : Nat) : Int))) : Met l yX4_carried wsX4_carried ({ frames := 2, cells := 0, slots := 0, locals := 42 }) (va_Pc [.ref xp, .int (iI (x)), .int (iI ((j : Nat) : Int))] (RO D cI cB cZ cO [(xp, .inr (4, [.ref xc, .ref xs, .ref h, .ref xq, .ref xl, .int (iI ((ag : Nat) : Int)), .int (iI ((di : Nat) : Int))])), (h, .inr (0, [.ref a1, .ref a2, .ref a3, .int (iI ((tt : Nat) : Int)), .ref a4, .int (iI ((ln : Nat) : Int)), .ref a5, .int (iI ((ed : Nat) : Int)), .int (iI ((es : Nat) : Int)), .int (iI ((ac : Nat) : Int)), .int (iI ((cu : Nat) : Int))]))])) (QO (-1)) 0 0 (fun _ => False) := by
  refine startO (cc := cX4_carried) (maxL := 4) (ret := (some .int)) (by decide) rfl (Nat.le_of_ble_eq_true rfl) ?_
  intro p e s m below meth c S hr hlocks hE hP ls hl
  have hx := S.1
  have hb := S.2.1
  have hown := S.2.2.2.1
  have hts := S.2.2.2.2
  have hK := hE.1
  have hl : lv_has ls 4 [(0, .ref xp), (1, .int (iI (x))), (2, .int (iI ((j : Nat) : Int)))] := hl
  refine lv_aload_n hx hb dX4_carried_0 rfl (lv_at hl 0 rfl) ?_
  refine va_get (D := D) (ci := 4) (v := .ref h) (C := RX4) (T := TX4) (N := 7) hx hb hts nX4_carried_X4 hown hK hP 0 rfl rfl 2 (by decide) (hts _ kX4_carried_28) (fun _ h9 => h9) rfl dX4_carried_1 ?_
  refine lv_iload_n hx hb dX4_carried_4 rfl (lv_at hl 2 rfl) ?_
  refine callVO (n := 1) (As := [.int (iI ((j : Nat) : Int))]) (rest := []) (wc := [(h, .inr (0, [.ref a1, .ref a2, .ref a3, .int (iI ((tt : Nat) : Int)), .ref a4, .int (iI ((ln : Nat) : Int)), .ref a5, .int (iI ((ed : Nat) : Int)), .int (iI ((es : Nat) : Int)), .int (iI ((ac : Nat) : Int)), .int (iI ((cu : Nat) : Int))]))]) S (c_hasPlace l D cI cB cZ cO h a1 a2 a3 a4 a5 tt ln ed es ac cu (((j : Nat) : Int)) (by first | assumption | (omega)) (by first | assumption | (omega))) gX4_carried_X0_hasPlace rfl ⟨rfl, rfl⟩ (by decide +kernel) ⟨Nat.le_of_ble_eq_true rfl, Nat.le_of_ble_eq_true rfl⟩ hE hP [1] rfl 0 0 rfl rfl rfl hl.1 rfl (Nat.le_of_ble_eq_true rfl) dX4_carried_5 ⟨Nat.le_of_ble_eq_true rfl, Nat.le_of_ble_eq_true rfl⟩ ?_
  refine r_ifb_ne (tgt := 13) hx hb dX4_carried_8 (by decide) (fun c_1 => ?_) (fun c_1 => ?_)
  · skip
    refine lv_aload_n hx hb dX4_carried_13 rfl (lv_at hl 0 rfl) ?_
    refine lv_iload_n hx hb dX4_carried_14 rfl (lv_at hl 1 rfl) ?_
    refine callVO (n := 1) (As := [.int (iI (x))]) (rest := []) (wc := [(xp, .inr (4, [.ref xc, .ref xs, .ref h, .ref xq, .ref xl, .int (iI ((ag : Nat) : Int)), .int (iI ((di : Nat) : Int))])), (h, .inr (0, [.ref a1, .ref a2, .ref a3, .int (iI ((tt : Nat) : Int)), .ref a4, .int (iI ((ln : Nat) : Int)), .ref a5, .int (iI ((ed : Nat) : Int)), .int (iI ((es : Nat) : Int)), .int (iI ((ac : Nat) : Int)), .int (iI ((cu : Nat) : Int))]))]) S (p_refuse_bad l D cI cB cZ cO xp xc xs xq xl ag di h a1 a2 a3 a4 a5 tt ln ed es ac cu x (by first | assumption | (omega)) (by first | assumption | (omega)) (by first | assumption | (omega))) gX4_carried_X4_refusalToTakeBack rfl ⟨rfl, rfl⟩ (by decide +kernel) ⟨Nat.le_of_ble_eq_true rfl, Nat.le_of_ble_eq_true rfl⟩ hE hP [0, 1] rfl 4 0 rfl rfl rfl hl.1 rfl (Nat.le_of_ble_eq_true rfl) dX4_carried_15 ⟨Nat.le_of_ble_eq_true rfl, Nat.le_of_ble_eq_true rfl⟩ ?_
    refine lv_istore_n (lv' := [(3, .int (iI (-1))), (0, .ref xp), (1, .int (iI (x))), (2, .int (iI ((j : Nat) : Int)))]) hx hb dX4_carried_18 rfl hl (by decide) rfl (fun ls hl => ?_)
    refine lv_iload_n hx hb dX4_carried_19 rfl (lv_at hl 0 rfl) ?_
    refine r_if_ge (tgt := 27) hx hb (⟨by decide, by decide⟩) dX4_carried_20 (by decide) (fun c_2 => ?_) (fun c_2 => ?_)
    · skip
      exact absurd c_2 (by decide)
    · skip
      refine lv_iload_n hx hb dX4_carried_23 rfl (lv_at hl 0 rfl) ?_
      refine lv_goto (tgt := 46) hx hb dX4_carried_24 (by decide) ?_
      exact r_iretO hx hb hr hlocks (rfl) dX4_carried_46
  · skip
    exfalso; omega

set_option maxHeartbeats 4000000 in
set_option maxRecDepth 100000 in
theorem p_carried_no (l : Launch) (D : va_G) (cI cB cZ cO : ClassId) (xp : Nat) (xc : Nat) (xs : Nat) (xq : Nat) (xl : Nat) (ag : Nat) (di : Nat) (h : Nat) (a1 : Nat) (a2 : Nat) (a3 : Nat) (a4 : Nat) (a5 : Nat) (tt : Nat) (ln : Nat) (ed : Nat) (es : Nat) (ac : Nat) (cu : Nat) (ba : Nat → Nat) (st1 : Nat) (j : Nat) (hed : ed ≤ 16) (hac : ac < 65536) (hba : ∀ k, ba k < 65536) (hst : st1 < 2 ^ ed) (hln : ln ≤ 60) (hj : j < ln) (hno : ¬ ct ba ed ac st1) : Met l yX4_carried wsX4_carried ({ frames := 4, cells := 0, slots := 0, locals := 85 }) (va_Pc [.ref xp, .int (iI ((st1 : Nat) : Int)), .int (iI ((j : Nat) : Int))] (RO D cI cB cZ cO [(xp, .inr (4, [.ref xc, .ref xs, .ref h, .ref xq, .ref xl, .int (iI ((ag : Nat) : Int)), .int (iI ((di : Nat) : Int))])), (h, .inr (0, [.ref a1, .ref a2, .ref a3, .int (iI ((tt : Nat) : Int)), .ref a4, .int (iI ((ln : Nat) : Int)), .ref a5, .int (iI ((ed : Nat) : Int)), .int (iI ((es : Nat) : Int)), .int (iI ((ac : Nat) : Int)), .int (iI ((cu : Nat) : Int))])), (a5, .inl (cI, 16, .inl (rN (ba))))])) (QO (-2)) 0 0 (fun _ => False) := by
  refine startO (cc := cX4_carried) (maxL := 4) (ret := (some .int)) (by decide) rfl (Nat.le_of_ble_eq_true rfl) ?_
  intro p e s m below meth c S hr hlocks hE hP ls hl
  have hx := S.1
  have hb := S.2.1
  have hown := S.2.2.2.1
  have hts := S.2.2.2.2
  have hK := hE.1
  have hl : lv_has ls 4 [(0, .ref xp), (1, .int (iI ((st1 : Nat) : Int))), (2, .int (iI ((j : Nat) : Int)))] := hl
  refine lv_aload_n hx hb dX4_carried_0 rfl (lv_at hl 0 rfl) ?_
  refine va_get (D := D) (ci := 4) (v := .ref h) (C := RX4) (T := TX4) (N := 7) hx hb hts nX4_carried_X4 hown hK hP 0 rfl rfl 2 (by decide) (hts _ kX4_carried_28) (fun _ h9 => h9) rfl dX4_carried_1 ?_
  refine lv_iload_n hx hb dX4_carried_4 rfl (lv_at hl 2 rfl) ?_
  refine callVO (n := 1) (As := [.int (iI ((j : Nat) : Int))]) (rest := []) (wc := [(h, .inr (0, [.ref a1, .ref a2, .ref a3, .int (iI ((tt : Nat) : Int)), .ref a4, .int (iI ((ln : Nat) : Int)), .ref a5, .int (iI ((ed : Nat) : Int)), .int (iI ((es : Nat) : Int)), .int (iI ((ac : Nat) : Int)), .int (iI ((cu : Nat) : Int))]))]) S (c_hasPlace l D cI cB cZ cO h a1 a2 a3 a4 a5 tt ln ed es ac cu (((j : Nat) : Int)) (by first | assumption | (omega)) (by first | assumption | (omega))) gX4_carried_X0_hasPlace rfl ⟨rfl, rfl⟩ (by decide +kernel) ⟨Nat.le_of_ble_eq_true rfl, Nat.le_of_ble_eq_true rfl⟩ hE hP [1] rfl 0 0 rfl rfl rfl hl.1 rfl (Nat.le_of_ble_eq_true rfl) dX4_carried_5 ⟨Nat.le_of_ble_eq_true rfl, Nat.le_of_ble_eq_true rfl⟩ ?_
  refine r_ifb_ne (tgt := 13) hx hb dX4_carried_8 (by decide) (fun c_1 => ?_) (fun c_1 => ?_)
  · skip
    refine lv_aload_n hx hb dX4_carried_13 rfl (lv_at hl 0 rfl) ?_
    refine lv_iload_n hx hb dX4_carried_14 rfl (lv_at hl 1 rfl) ?_
    refine callVO (n := 1) (As := [.int (iI ((st1 : Nat) : Int))]) (rest := []) (wc := [(xp, .inr (4, [.ref xc, .ref xs, .ref h, .ref xq, .ref xl, .int (iI ((ag : Nat) : Int)), .int (iI ((di : Nat) : Int))])), (h, .inr (0, [.ref a1, .ref a2, .ref a3, .int (iI ((tt : Nat) : Int)), .ref a4, .int (iI ((ln : Nat) : Int)), .ref a5, .int (iI ((ed : Nat) : Int)), .int (iI ((es : Nat) : Int)), .int (iI ((ac : Nat) : Int)), .int (iI ((cu : Nat) : Int))])), (a5, .inl (cI, 16, .inl (rN (ba))))]) S (p_refuse_no l D cI cB cZ cO xp xc xs xq xl ag di h a1 a2 a3 a4 a5 tt ln ed es ac cu ba st1 (by first | assumption | (omega)) (by first | assumption | (omega)) (by first | assumption | (omega)) (by first | assumption | (omega)) (by first | assumption | (omega))) gX4_carried_X4_refusalToTakeBack rfl ⟨rfl, rfl⟩ (by decide +kernel) ⟨Nat.le_of_ble_eq_true rfl, Nat.le_of_ble_eq_true rfl⟩ hE hP [0, 1, 2] rfl 4 0 rfl rfl rfl hl.1 rfl (Nat.le_of_ble_eq_true rfl) dX4_carried_15 ⟨Nat.le_of_ble_eq_true rfl, Nat.le_of_ble_eq_true rfl⟩ ?_
    refine lv_istore_n (lv' := [(3, .int (iI (-2))), (0, .ref xp), (1, .int (iI ((st1 : Nat) : Int))), (2, .int (iI ((j : Nat) : Int)))]) hx hb dX4_carried_18 rfl hl (by decide) rfl (fun ls hl => ?_)
    refine lv_iload_n hx hb dX4_carried_19 rfl (lv_at hl 0 rfl) ?_
    refine r_if_ge (tgt := 27) hx hb (⟨by decide, by decide⟩) dX4_carried_20 (by decide) (fun c_2 => ?_) (fun c_2 => ?_)
    · skip
      exact absurd c_2 (by decide)
    · skip
      refine lv_iload_n hx hb dX4_carried_23 rfl (lv_at hl 0 rfl) ?_
      refine lv_goto (tgt := 46) hx hb dX4_carried_24 (by decide) ?_
      exact r_iretO hx hb hr hlocks (rfl) dX4_carried_46
  · skip
    exfalso; omega

theorem nX4_carried_X0 : ∀ w ∈ u_ws RX0 TX0 11, w ∈ wsX4_carried := by decide +kernel
set_option maxHeartbeats 4000000 in
set_option maxRecDepth 100000 in
theorem p_carried (l : Launch) (D : va_G) (cI cB cZ cO : ClassId) (xp : Nat) (xc : Nat) (xs : Nat) (xq : Nat) (xl : Nat) (ag : Nat) (di : Nat) (h : Nat) (a1 : Nat) (a2 : Nat) (a3 : Nat) (a4 : Nat) (a5 : Nat) (tt : Nat) (ln : Nat) (ed : Nat) (es : Nat) (ac : Nat) (cu : Nat) (ow : Nat → Nat) (er : Nat → Nat) (ix : Nat → Nat) (ba : Nat → Nat) (st1 : Nat) (j : Nat) (hed : ed ≤ 16) (hac : ac < 65536) (hba : ∀ k, ba k < 65536) (hst : st1 < 2 ^ ed) (hln : ln ≤ 60) (hj : j < ln) (hok : ct ba ed ac st1) (htt : tt ≤ 160) (hix : ∀ j, ix j < 160) (hixt : ix j < tt) (how : ∀ k, ow k < 65536) (her : ∀ k, er k < 65536) : Met l yX4_carried wsX4_carried ({ frames := 4, cells := 0, slots := 0, locals := 85 }) (va_Pc [.ref xp, .int (iI ((st1 : Nat) : Int)), .int (iI ((j : Nat) : Int))] (RO D cI cB cZ cO [(xp, .inr (4, [.ref xc, .ref xs, .ref h, .ref xq, .ref xl, .int (iI ((ag : Nat) : Int)), .int (iI ((di : Nat) : Int))])), (h, .inr (0, [.ref a1, .ref a2, .ref a3, .int (iI ((tt : Nat) : Int)), .ref a4, .int (iI ((ln : Nat) : Int)), .ref a5, .int (iI ((ed : Nat) : Int)), .int (iI ((es : Nat) : Int)), .int (iI ((ac : Nat) : Int)), .int (iI ((cu : Nat) : Int))])), (a2, .inl (cI, 160, .inl (rN (ow)))), (a3, .inl (cI, 160, .inl (rN (er)))), (a4, .inl (cI, 60, .inl (rN (ix)))), (a5, .inl (cI, 16, .inl (rN (ba))))])) (QO (pla ow er ix (nd ac st1) j)) 0 0 (fun _ => False) := by
  refine startO (cc := cX4_carried) (maxL := 4) (ret := (some .int)) (by decide) rfl (Nat.le_of_ble_eq_true rfl) ?_
  intro p e s m below meth c S hr hlocks hE hP ls hl
  have hx := S.1
  have hb := S.2.1
  have hown := S.2.2.2.1
  have hts := S.2.2.2.2
  have hK := hE.1
  have hl : lv_has ls 4 [(0, .ref xp), (1, .int (iI ((st1 : Nat) : Int))), (2, .int (iI ((j : Nat) : Int)))] := hl
  have hp2 := pow_le16 hed
  have hnl := nd_le ac st1
  refine lv_aload_n hx hb dX4_carried_0 rfl (lv_at hl 0 rfl) ?_
  refine va_get (D := D) (ci := 4) (v := .ref h) (C := RX4) (T := TX4) (N := 7) hx hb hts nX4_carried_X4 hown hK hP 0 rfl rfl 2 (by decide) (hts _ kX4_carried_28) (fun _ h9 => h9) rfl dX4_carried_1 ?_
  refine lv_iload_n hx hb dX4_carried_4 rfl (lv_at hl 2 rfl) ?_
  refine callVO (n := 1) (As := [.int (iI ((j : Nat) : Int))]) (rest := []) (wc := [(h, .inr (0, [.ref a1, .ref a2, .ref a3, .int (iI ((tt : Nat) : Int)), .ref a4, .int (iI ((ln : Nat) : Int)), .ref a5, .int (iI ((ed : Nat) : Int)), .int (iI ((es : Nat) : Int)), .int (iI ((ac : Nat) : Int)), .int (iI ((cu : Nat) : Int))]))]) S (c_hasPlace l D cI cB cZ cO h a1 a2 a3 a4 a5 tt ln ed es ac cu (((j : Nat) : Int)) (by first | assumption | (omega)) (by first | assumption | (omega))) gX4_carried_X0_hasPlace rfl ⟨rfl, rfl⟩ (by decide +kernel) ⟨Nat.le_of_ble_eq_true rfl, Nat.le_of_ble_eq_true rfl⟩ hE hP [1] rfl 0 0 rfl rfl rfl hl.1 rfl (Nat.le_of_ble_eq_true rfl) dX4_carried_5 ⟨Nat.le_of_ble_eq_true rfl, Nat.le_of_ble_eq_true rfl⟩ ?_
  refine r_ifb_ne (tgt := 13) hx hb dX4_carried_8 (by decide) (fun c_1 => ?_) (fun c_1 => ?_)
  · skip
    refine lv_aload_n hx hb dX4_carried_13 rfl (lv_at hl 0 rfl) ?_
    refine lv_iload_n hx hb dX4_carried_14 rfl (lv_at hl 1 rfl) ?_
    refine callVO (n := 1) (As := [.int (iI ((st1 : Nat) : Int))]) (rest := []) (wc := [(xp, .inr (4, [.ref xc, .ref xs, .ref h, .ref xq, .ref xl, .int (iI ((ag : Nat) : Int)), .int (iI ((di : Nat) : Int))])), (h, .inr (0, [.ref a1, .ref a2, .ref a3, .int (iI ((tt : Nat) : Int)), .ref a4, .int (iI ((ln : Nat) : Int)), .ref a5, .int (iI ((ed : Nat) : Int)), .int (iI ((es : Nat) : Int)), .int (iI ((ac : Nat) : Int)), .int (iI ((cu : Nat) : Int))])), (a5, .inl (cI, 16, .inl (rN (ba))))]) S (p_refuse_ok l D cI cB cZ cO xp xc xs xq xl ag di h a1 a2 a3 a4 a5 tt ln ed es ac cu ba st1 (by first | assumption | (omega)) (by first | assumption | (omega)) (by first | assumption | (omega)) (by first | assumption | (omega)) (by first | assumption | (omega))) gX4_carried_X4_refusalToTakeBack rfl ⟨rfl, rfl⟩ (by decide +kernel) ⟨Nat.le_of_ble_eq_true rfl, Nat.le_of_ble_eq_true rfl⟩ hE hP [0, 1, 5] rfl 4 0 rfl rfl rfl hl.1 rfl (Nat.le_of_ble_eq_true rfl) dX4_carried_15 ⟨Nat.le_of_ble_eq_true rfl, Nat.le_of_ble_eq_true rfl⟩ ?_
    refine lv_istore_n (lv' := [(3, .int (iI 0)), (0, .ref xp), (1, .int (iI ((st1 : Nat) : Int))), (2, .int (iI ((j : Nat) : Int)))]) hx hb dX4_carried_18 rfl hl (by decide) rfl (fun ls hl => ?_)
    refine lv_iload_n hx hb dX4_carried_19 rfl (lv_at hl 0 rfl) ?_
    refine r_if_ge (tgt := 27) hx hb (⟨by decide, by decide⟩) dX4_carried_20 (by decide) (fun c_2 => ?_) (fun c_2 => ?_)
    · skip
      refine lv_aload_n hx hb dX4_carried_27 rfl (lv_at hl 1 rfl) ?_
      refine va_get (D := D) (ci := 4) (v := .ref h) (C := RX4) (T := TX4) (N := 7) hx hb hts nX4_carried_X4 hown hK hP 0 rfl rfl 2 (by decide) (hts _ kX4_carried_28) (fun _ h9 => h9) rfl dX4_carried_28 ?_
      refine lv_iload_n hx hb dX4_carried_31 rfl (lv_at hl 3 rfl) ?_
      refine lv_aload_n hx hb dX4_carried_32 rfl (lv_at hl 1 rfl) ?_
      refine va_get (D := D) (ci := 4) (v := .ref h) (C := RX4) (T := TX4) (N := 7) hx hb hts nX4_carried_X4 hown hK hP 0 rfl rfl 2 (by decide) (hts _ kX4_carried_28) (fun _ h9 => h9) rfl dX4_carried_33 ?_
      refine va_getN (D := D) (ci := 0) (v := .int (iI ((ac : Nat) : Int))) (C := RX0) (T := TX0) (N := 11) hx hb hts nX4_carried_X0 hown hK hP 1 rfl rfl 9 (by decide) (va_Nw.use rfl (hE.2.f 19 rfl)) (fun _ h9 => h9) rfl dX4_carried_36 ?_
      refine lv_iload_n hx hb dX4_carried_39 rfl (lv_at hl 2 rfl) ?_
      refine r_iconst hx hb dX4_carried_40 ?_
      refine r_inot (v := (-1 - ((st1 : Nat) : Int))) hx hb (rfl) dX4_carried_41 ?_
      refine r_iandnot hx hb (ac) (st1) (rfl) rfl dX4_carried_42 ?_
      refine callVO (n := 2) (As := [.int (iI ((j : Nat) : Int)), .int (iI ((nd ac st1 : Nat) : Int))]) (rest := []) (wc := [(h, .inr (0, [.ref a1, .ref a2, .ref a3, .int (iI ((tt : Nat) : Int)), .ref a4, .int (iI ((ln : Nat) : Int)), .ref a5, .int (iI ((ed : Nat) : Int)), .int (iI ((es : Nat) : Int)), .int (iI ((ac : Nat) : Int)), .int (iI ((cu : Nat) : Int))])), (a2, .inl (cI, 160, .inl (rN (ow)))), (a3, .inl (cI, 160, .inl (rN (er)))), (a4, .inl (cI, 60, .inl (rN (ix))))]) S (c_placeAfter l D cI cB cZ cO h a1 a2 a3 a4 a5 tt ln ed es ac cu ow er ix j (nd ac st1) (by first | assumption | (omega)) (by first | assumption | (omega)) (by first | assumption | (omega)) (by first | assumption | (omega)) (by first | assumption | (omega)) (by first | assumption | (omega)) (by first | assumption | (omega)) (by first | assumption | (omega))) gX4_carried_X0_placeAfter rfl ⟨rfl, rfl⟩ (by decide +kernel) ⟨Nat.le_of_ble_eq_true rfl, Nat.le_of_ble_eq_true rfl⟩ hE hP [1, 2, 3, 4] rfl 0 0 rfl rfl rfl hl.1 rfl (Nat.le_of_ble_eq_true rfl) dX4_carried_43 ⟨Nat.le_of_ble_eq_true rfl, Nat.le_of_ble_eq_true rfl⟩ ?_
      exact r_iretO hx hb hr hlocks (rfl) dX4_carried_46
    · skip
      exact absurd c_2 (by decide)
  · skip
    exfalso; omega

theorem kX4_run_28 : Cond.fieldLink RX4 28 "PricedUndo" "buffer" "LPricedUndo$Buffer;" ∈ wsX4_run := by decide +kernel
theorem nX4_run_X4 : ∀ w ∈ u_ws RX4 TX4 7, w ∈ wsX4_run := by decide +kernel
set_option maxHeartbeats 4000000 in
set_option maxRecDepth 100000 in
theorem p_run_bad (l : Launch) (D : va_G) (cI cB cZ cO : ClassId) (xp : Nat) (xc : Nat) (xs : Nat) (xq : Nat) (xl : Nat) (ag : Nat) (di : Nat) (h : Nat) (a1 : Nat) (a2 : Nat) (a3 : Nat) (a4 : Nat) (a5 : Nat) (tt : Nat) (ln : Nat) (ed : Nat) (es : Nat) (ac : Nat) (cu : Nat) (x : Int) (y : Int) (hed : ed ≤ 16) (rx : rg x) (ry : rg y) (hbad : ¬ ((x = -1 ∨ (0 ≤ x ∧ x < (ed : Int))) ∧ 0 ≤ y ∧ y ≤ 1)) : Met l yX4_run wsX4_run ({ frames := 1, cells := 0, slots := 0, locals := 21 }) (va_Pc [.ref xp, .int (iI (x)), .int (iI (y))] (RO D cI cB cZ cO [(xp, .inr (4, [.ref xc, .ref xs, .ref h, .ref xq, .ref xl, .int (iI ((ag : Nat) : Int)), .int (iI ((di : Nat) : Int))])), (h, .inr (0, [.ref a1, .ref a2, .ref a3, .int (iI ((tt : Nat) : Int)), .ref a4, .int (iI ((ln : Nat) : Int)), .ref a5, .int (iI ((ed : Nat) : Int)), .int (iI ((es : Nat) : Int)), .int (iI ((ac : Nat) : Int)), .int (iI ((cu : Nat) : Int))]))])) (QO (-1)) 0 0 (fun _ => False) := by
  refine startO (cc := cX4_run) (maxL := 6) (ret := (some .int)) (by decide) rfl (Nat.le_of_ble_eq_true rfl) ?_
  intro p e s m below meth c S hr hlocks hE hP ls hl
  have hx := S.1
  have hb := S.2.1
  have hown := S.2.2.2.1
  have hts := S.2.2.2.2
  have hK := hE.1
  have hl : lv_has ls 6 [(0, .ref xp), (1, .int (iI (x))), (2, .int (iI (y)))] := hl
  refine lv_iload_n hx hb dX4_run_0 rfl (lv_at hl 1 rfl) ?_
  refine r_iconst hx hb dX4_run_1 ?_
  refine r_icmp_eq (tgt := 16) hx hb (by omega) (⟨by decide, by decide⟩) dX4_run_2 (by decide) (fun c_1 => ?_) (fun c_1 => ?_)
  · skip
    refine lv_iload_n hx hb dX4_run_16 rfl (lv_at hl 2 rfl) ?_
    refine r_if_lt (tgt := 25) hx hb (by omega) dX4_run_17 (by decide) (fun c_2 => ?_) (fun c_2 => ?_)
    · skip
      refine r_iconst hx hb dX4_run_25 ?_
      exact r_iretO hx hb hr hlocks (rfl) dX4_run_26
    · skip
      refine lv_iload_n hx hb dX4_run_20 rfl (lv_at hl 2 rfl) ?_
      refine r_iconst hx hb dX4_run_21 ?_
      refine r_icmp_le (tgt := 27) hx hb (by omega) (⟨by decide, by decide⟩) dX4_run_22 (by decide) (fun c_3 => ?_) (fun c_3 => ?_)
      · skip
        exfalso; omega
      · skip
        refine r_iconst hx hb dX4_run_25 ?_
        exact r_iretO hx hb hr hlocks (rfl) dX4_run_26
  · skip
    refine lv_aload_n hx hb dX4_run_5 rfl (lv_at hl 0 rfl) ?_
    refine va_get (D := D) (ci := 4) (v := .ref h) (C := RX4) (T := TX4) (N := 7) hx hb hts nX4_run_X4 hown hK hP 0 rfl rfl 2 (by decide) (hts _ kX4_run_28) (fun _ h9 => h9) rfl dX4_run_6 ?_
    refine lv_iload_n hx hb dX4_run_9 rfl (lv_at hl 1 rfl) ?_
    refine callVO (n := 1) (As := [.int (iI (x))]) (rest := []) (wc := [(h, .inr (0, [.ref a1, .ref a2, .ref a3, .int (iI ((tt : Nat) : Int)), .ref a4, .int (iI ((ln : Nat) : Int)), .ref a5, .int (iI ((ed : Nat) : Int)), .int (iI ((es : Nat) : Int)), .int (iI ((ac : Nat) : Int)), .int (iI ((cu : Nat) : Int))]))]) S (c_hasEdit l D cI cB cZ cO h a1 a2 a3 a4 a5 tt ln ed es ac cu x (by first | assumption | (omega)) (by first | assumption | (omega))) gX4_run_X0_hasEdit rfl ⟨rfl, rfl⟩ (by decide +kernel) ⟨Nat.le_of_ble_eq_true rfl, Nat.le_of_ble_eq_true rfl⟩ hE hP [1] rfl 0 0 rfl rfl rfl hl.1 rfl (Nat.le_of_ble_eq_true rfl) dX4_run_10 ⟨Nat.le_of_ble_eq_true rfl, Nat.le_of_ble_eq_true rfl⟩ ?_
    refine r_ifb_eq (tgt := 25) hx hb dX4_run_13 (by decide) (fun c_4 => ?_) (fun c_4 => ?_)
    · skip
      refine r_iconst hx hb dX4_run_25 ?_
      exact r_iretO hx hb hr hlocks (rfl) dX4_run_26
    · skip
      refine lv_iload_n hx hb dX4_run_16 rfl (lv_at hl 2 rfl) ?_
      refine r_if_lt (tgt := 25) hx hb (by omega) dX4_run_17 (by decide) (fun c_5 => ?_) (fun c_5 => ?_)
      · skip
        refine r_iconst hx hb dX4_run_25 ?_
        exact r_iretO hx hb hr hlocks (rfl) dX4_run_26
      · skip
        refine lv_iload_n hx hb dX4_run_20 rfl (lv_at hl 2 rfl) ?_
        refine r_iconst hx hb dX4_run_21 ?_
        refine r_icmp_le (tgt := 27) hx hb (by omega) (⟨by decide, by decide⟩) dX4_run_22 (by decide) (fun c_6 => ?_) (fun c_6 => ?_)
        · skip
          exfalso; omega
        · skip
          refine r_iconst hx hb dX4_run_25 ?_
          exact r_iretO hx hb hr hlocks (rfl) dX4_run_26

set_option maxHeartbeats 4000000 in
set_option maxRecDepth 100000 in
theorem p_run_e0 (l : Launch) (D : va_G) (cI cB cZ cO : ClassId) (xp : Nat) (xc : Nat) (xs : Nat) (xq : Nat) (xl : Nat) (ag : Nat) (di : Nat) (h : Nat) (a1 : Nat) (a2 : Nat) (a3 : Nat) (a4 : Nat) (a5 : Nat) (tt : Nat) (ln : Nat) (ed : Nat) (es : Nat) (ac : Nat) (cu : Nat) (ow : Nat → Nat) (ix : Nat → Nat) (e1 : Nat) (hln : ln ≤ 60) (hed : ed ≤ 16) (hix : ∀ j, ix j < 160) (how : ∀ k, ow k < 65536) (he1 : e1 < ed) : Met l yX4_run wsX4_run ({ frames := 4, cells := 0, slots := 0, locals := 90 }) (va_Pc [.ref xp, .int (iI ((e1 : Nat) : Int)), .int (iI 0)] (RO D cI cB cZ cO [(xp, .inr (4, [.ref xc, .ref xs, .ref h, .ref xq, .ref xl, .int (iI ((ag : Nat) : Int)), .int (iI ((di : Nat) : Int))])), (h, .inr (0, [.ref a1, .ref a2, .ref a3, .int (iI ((tt : Nat) : Int)), .ref a4, .int (iI ((ln : Nat) : Int)), .ref a5, .int (iI ((ed : Nat) : Int)), .int (iI ((es : Nat) : Int)), .int (iI ((ac : Nat) : Int)), .int (iI ((cu : Nat) : Int))])), (a2, .inl (cI, 160, .inl (rN (ow)))), (a4, .inl (cI, 60, .inl (rN (ix))))])) (QO ((stp (isO ow ix (2 ^ e1)) (bst (isO ow ix (2 ^ e1)) ln) ln : Nat) : Int)) 0 0 (fun _ => False) := by
  refine startO (cc := cX4_run) (maxL := 6) (ret := (some .int)) (by decide) rfl (Nat.le_of_ble_eq_true rfl) ?_
  intro p e s m below meth c S hr hlocks hE hP ls hl
  have hx := S.1
  have hb := S.2.1
  have hown := S.2.2.2.1
  have hts := S.2.2.2.2
  have hK := hE.1
  have hl : lv_has ls 6 [(0, .ref xp), (1, .int (iI ((e1 : Nat) : Int))), (2, .int (iI 0))] := hl
  have hbl : bst (isO ow ix (2 ^ e1)) ln ≤ ln := fsF_le _ _
  have hsl := stp_le (isO ow ix (2 ^ e1)) (bst (isO ow ix (2 ^ e1)) ln) ln
  have hpe := pow16 (show e1 < 16 by omega)
  refine lv_iload_n hx hb dX4_run_0 rfl (lv_at hl 1 rfl) ?_
  refine r_iconst hx hb dX4_run_1 ?_
  refine r_icmp_eq (tgt := 16) hx hb (by first | omega | (rw [if_pos (by omega)]) | (rw [if_neg (by omega)])) (⟨by decide, by decide⟩) dX4_run_2 (by decide) (fun c_1 => ?_) (fun c_1 => ?_)
  · skip
    refine lv_iload_n hx hb dX4_run_16 rfl (lv_at hl 2 rfl) ?_
    refine r_if_lt (tgt := 25) hx hb (⟨by decide, by decide⟩) dX4_run_17 (by decide) (fun c_2 => ?_) (fun c_2 => ?_)
    · skip
      exact absurd c_2 (by decide)
    · skip
      refine lv_iload_n hx hb dX4_run_20 rfl (lv_at hl 2 rfl) ?_
      refine r_iconst hx hb dX4_run_21 ?_
      refine r_icmp_le (tgt := 27) hx hb (⟨by decide, by decide⟩) (⟨by decide, by decide⟩) dX4_run_22 (by decide) (fun c_3 => ?_) (fun c_3 => ?_)
      · skip
        refine lv_iload_n hx hb dX4_run_27 rfl (lv_at hl 1 rfl) ?_
        refine r_iconst hx hb dX4_run_28 ?_
        refine r_icmp_ne (tgt := 36) hx hb (by first | omega | (rw [if_pos (by omega)]) | (rw [if_neg (by omega)])) (⟨by decide, by decide⟩) dX4_run_29 (by decide) (fun c_4 => ?_) (fun c_4 => ?_)
        · skip
          refine lv_iload_n hx hb dX4_run_36 rfl (lv_at hl 1 rfl) ?_
          refine callSO (n := 1) (As := [.int (iI ((e1 : Nat) : Int))]) (rest := []) (wc := []) S (c_single l D cI cB cZ cO e1 (by first | assumption | (first | omega | (rw [if_pos (by omega)]) | (rw [if_neg (by omega)])))) gX4_run_X4_single rfl ⟨rfl, rfl⟩ (by decide +kernel) ⟨Nat.le_of_ble_eq_true rfl, Nat.le_of_ble_eq_true rfl⟩ hE hP [] rfl rfl hl.1 rfl (Nat.le_of_ble_eq_true rfl) dX4_run_37 ⟨Nat.le_of_ble_eq_true rfl, Nat.le_of_ble_eq_true rfl⟩ ?_
          refine lv_istore_n (lv' := [(3, .int (iI ((2 ^ e1 : Nat) : Int))), (0, .ref xp), (1, .int (iI ((e1 : Nat) : Int))), (2, .int (iI 0))]) hx hb dX4_run_40 rfl hl (by decide) rfl (fun ls hl => ?_)
          refine lv_aload_n hx hb dX4_run_41 rfl (lv_at hl 1 rfl) ?_
          refine va_get (D := D) (ci := 4) (v := .ref h) (C := RX4) (T := TX4) (N := 7) hx hb hts nX4_run_X4 hown hK hP 0 rfl rfl 2 (by decide) (hts _ kX4_run_28) (fun _ h9 => h9) rfl dX4_run_42 ?_
          refine lv_iload_n hx hb dX4_run_45 rfl (lv_at hl 0 rfl) ?_
          refine callVO (n := 1) (As := [.int (iI ((2 ^ e1 : Nat) : Int))]) (rest := []) (wc := [(h, .inr (0, [.ref a1, .ref a2, .ref a3, .int (iI ((tt : Nat) : Int)), .ref a4, .int (iI ((ln : Nat) : Int)), .ref a5, .int (iI ((ed : Nat) : Int)), .int (iI ((es : Nat) : Int)), .int (iI ((ac : Nat) : Int)), .int (iI ((cu : Nat) : Int))])), (a2, .inl (cI, 160, .inl (rN (ow)))), (a4, .inl (cI, 60, .inl (rN (ix))))]) S (c_longestStretch l D cI cB cZ cO h a1 a2 a3 a4 a5 tt ln ed es ac cu ow ix (2 ^ e1) (by first | assumption | (first | omega | (rw [if_pos (by omega)]) | (rw [if_neg (by omega)]))) (by first | assumption | (first | omega | (rw [if_pos (by omega)]) | (rw [if_neg (by omega)]))) (by first | assumption | (first | omega | (rw [if_pos (by omega)]) | (rw [if_neg (by omega)]))) (by first | assumption | (first | omega | (rw [if_pos (by omega)]) | (rw [if_neg (by omega)])))) gX4_run_X0_longestStretch rfl ⟨rfl, rfl⟩ (by decide +kernel) ⟨Nat.le_of_ble_eq_true rfl, Nat.le_of_ble_eq_true rfl⟩ hE hP [1, 2, 3] rfl 0 0 rfl rfl rfl hl.1 rfl (Nat.le_of_ble_eq_true rfl) dX4_run_46 ⟨Nat.le_of_ble_eq_true rfl, Nat.le_of_ble_eq_true rfl⟩ ?_
          refine lv_istore (lv' := [(4, .int (iI ((bst (isO ow ix (2 ^ e1)) ln : Nat) : Int))), (3, .int (iI ((2 ^ e1 : Nat) : Int))), (0, .ref xp), (1, .int (iI ((e1 : Nat) : Int))), (2, .int (iI 0))]) hx hb dX4_run_49 hl (by decide) rfl (fun ls hl => ?_)
          refine lv_aload_n hx hb dX4_run_51 rfl (lv_at hl 2 rfl) ?_
          refine va_get (D := D) (ci := 4) (v := .ref h) (C := RX4) (T := TX4) (N := 7) hx hb hts nX4_run_X4 hown hK hP 0 rfl rfl 2 (by decide) (hts _ kX4_run_28) (fun _ h9 => h9) rfl dX4_run_52 ?_
          refine lv_iload hx hb dX4_run_55 (lv_at hl 0 rfl) ?_
          refine lv_iload_n hx hb dX4_run_57 rfl (lv_at hl 1 rfl) ?_
          refine callVO (n := 2) (As := [.int (iI ((bst (isO ow ix (2 ^ e1)) ln : Nat) : Int)), .int (iI ((2 ^ e1 : Nat) : Int))]) (rest := []) (wc := [(h, .inr (0, [.ref a1, .ref a2, .ref a3, .int (iI ((tt : Nat) : Int)), .ref a4, .int (iI ((ln : Nat) : Int)), .ref a5, .int (iI ((ed : Nat) : Int)), .int (iI ((es : Nat) : Int)), .int (iI ((ac : Nat) : Int)), .int (iI ((cu : Nat) : Int))])), (a2, .inl (cI, 160, .inl (rN (ow)))), (a4, .inl (cI, 60, .inl (rN (ix))))]) S (c_stretchFrom l D cI cB cZ cO h a1 a2 a3 a4 a5 tt ln ed es ac cu ow ix (bst (isO ow ix (2 ^ e1)) ln) (2 ^ e1) (by first | assumption | (first | omega | (rw [if_pos (by omega)]) | (rw [if_neg (by omega)]))) (by first | assumption | (first | omega | (rw [if_pos (by omega)]) | (rw [if_neg (by omega)]))) (by first | assumption | (first | omega | (rw [if_pos (by omega)]) | (rw [if_neg (by omega)]))) (by first | assumption | (first | omega | (rw [if_pos (by omega)]) | (rw [if_neg (by omega)]))) (by first | assumption | (first | omega | (rw [if_pos (by omega)]) | (rw [if_neg (by omega)])))) gX4_run_X0_stretchFrom rfl ⟨rfl, rfl⟩ (by decide +kernel) ⟨Nat.le_of_ble_eq_true rfl, Nat.le_of_ble_eq_true rfl⟩ hE hP [1, 2, 3] rfl 0 0 rfl rfl rfl hl.1 rfl (Nat.le_of_ble_eq_true rfl) dX4_run_58 ⟨Nat.le_of_ble_eq_true rfl, Nat.le_of_ble_eq_true rfl⟩ ?_
          refine lv_istore (lv' := [(5, .int (iI ((stp (isO ow ix (2 ^ e1)) (bst (isO ow ix (2 ^ e1)) ln) ln : Nat) : Int))), (4, .int (iI ((bst (isO ow ix (2 ^ e1)) ln : Nat) : Int))), (3, .int (iI ((2 ^ e1 : Nat) : Int))), (0, .ref xp), (1, .int (iI ((e1 : Nat) : Int))), (2, .int (iI 0))]) hx hb dX4_run_61 hl (by decide) rfl (fun ls hl => ?_)
          refine lv_iload_n hx hb dX4_run_63 rfl (lv_at hl 5 rfl) ?_
          refine r_if_ne (tgt := 70) hx hb (⟨by decide, by decide⟩) dX4_run_64 (by decide) (fun c_5 => ?_) (fun c_5 => ?_)
          · skip
            exact absurd c_5 (by decide)
          · skip
            refine lv_iload hx hb dX4_run_67 (lv_at hl 0 rfl) ?_
            exact r_iretO hx hb hr hlocks (rfl) dX4_run_69
        · skip
          exfalso; omega
      · skip
        exact absurd c_3 (by decide)
  · skip
    refine lv_aload_n hx hb dX4_run_5 rfl (lv_at hl 0 rfl) ?_
    refine va_get (D := D) (ci := 4) (v := .ref h) (C := RX4) (T := TX4) (N := 7) hx hb hts nX4_run_X4 hown hK hP 0 rfl rfl 2 (by decide) (hts _ kX4_run_28) (fun _ h9 => h9) rfl dX4_run_6 ?_
    refine lv_iload_n hx hb dX4_run_9 rfl (lv_at hl 1 rfl) ?_
    refine callVO (n := 1) (As := [.int (iI ((e1 : Nat) : Int))]) (rest := []) (wc := [(h, .inr (0, [.ref a1, .ref a2, .ref a3, .int (iI ((tt : Nat) : Int)), .ref a4, .int (iI ((ln : Nat) : Int)), .ref a5, .int (iI ((ed : Nat) : Int)), .int (iI ((es : Nat) : Int)), .int (iI ((ac : Nat) : Int)), .int (iI ((cu : Nat) : Int))]))]) S (c_hasEdit l D cI cB cZ cO h a1 a2 a3 a4 a5 tt ln ed es ac cu (((e1 : Nat) : Int)) (by first | assumption | (first | omega | (rw [if_pos (by omega)]) | (rw [if_neg (by omega)]))) (by first | assumption | (first | omega | (rw [if_pos (by omega)]) | (rw [if_neg (by omega)])))) gX4_run_X0_hasEdit rfl ⟨rfl, rfl⟩ (by decide +kernel) ⟨Nat.le_of_ble_eq_true rfl, Nat.le_of_ble_eq_true rfl⟩ hE hP [1] rfl 0 0 rfl rfl rfl hl.1 rfl (Nat.le_of_ble_eq_true rfl) dX4_run_10 ⟨Nat.le_of_ble_eq_true rfl, Nat.le_of_ble_eq_true rfl⟩ ?_
    refine r_ifb_eq (tgt := 25) hx hb dX4_run_13 (by decide) (fun c_6 => ?_) (fun c_6 => ?_)
    · skip
      exfalso; omega
    · skip
      refine lv_iload_n hx hb dX4_run_16 rfl (lv_at hl 2 rfl) ?_
      refine r_if_lt (tgt := 25) hx hb (⟨by decide, by decide⟩) dX4_run_17 (by decide) (fun c_7 => ?_) (fun c_7 => ?_)
      · skip
        exact absurd c_7 (by decide)
      · skip
        refine lv_iload_n hx hb dX4_run_20 rfl (lv_at hl 2 rfl) ?_
        refine r_iconst hx hb dX4_run_21 ?_
        refine r_icmp_le (tgt := 27) hx hb (⟨by decide, by decide⟩) (⟨by decide, by decide⟩) dX4_run_22 (by decide) (fun c_8 => ?_) (fun c_8 => ?_)
        · skip
          refine lv_iload_n hx hb dX4_run_27 rfl (lv_at hl 1 rfl) ?_
          refine r_iconst hx hb dX4_run_28 ?_
          refine r_icmp_ne (tgt := 36) hx hb (by first | omega | (rw [if_pos (by omega)]) | (rw [if_neg (by omega)])) (⟨by decide, by decide⟩) dX4_run_29 (by decide) (fun c_9 => ?_) (fun c_9 => ?_)
          · skip
            refine lv_iload_n hx hb dX4_run_36 rfl (lv_at hl 1 rfl) ?_
            refine callSO (n := 1) (As := [.int (iI ((e1 : Nat) : Int))]) (rest := []) (wc := []) S (c_single l D cI cB cZ cO e1 (by first | assumption | (first | omega | (rw [if_pos (by omega)]) | (rw [if_neg (by omega)])))) gX4_run_X4_single rfl ⟨rfl, rfl⟩ (by decide +kernel) ⟨Nat.le_of_ble_eq_true rfl, Nat.le_of_ble_eq_true rfl⟩ hE hP [] rfl rfl hl.1 rfl (Nat.le_of_ble_eq_true rfl) dX4_run_37 ⟨Nat.le_of_ble_eq_true rfl, Nat.le_of_ble_eq_true rfl⟩ ?_
            refine lv_istore_n (lv' := [(3, .int (iI ((2 ^ e1 : Nat) : Int))), (0, .ref xp), (1, .int (iI ((e1 : Nat) : Int))), (2, .int (iI 0))]) hx hb dX4_run_40 rfl hl (by decide) rfl (fun ls hl => ?_)
            refine lv_aload_n hx hb dX4_run_41 rfl (lv_at hl 1 rfl) ?_
            refine va_get (D := D) (ci := 4) (v := .ref h) (C := RX4) (T := TX4) (N := 7) hx hb hts nX4_run_X4 hown hK hP 0 rfl rfl 2 (by decide) (hts _ kX4_run_28) (fun _ h9 => h9) rfl dX4_run_42 ?_
            refine lv_iload_n hx hb dX4_run_45 rfl (lv_at hl 0 rfl) ?_
            refine callVO (n := 1) (As := [.int (iI ((2 ^ e1 : Nat) : Int))]) (rest := []) (wc := [(h, .inr (0, [.ref a1, .ref a2, .ref a3, .int (iI ((tt : Nat) : Int)), .ref a4, .int (iI ((ln : Nat) : Int)), .ref a5, .int (iI ((ed : Nat) : Int)), .int (iI ((es : Nat) : Int)), .int (iI ((ac : Nat) : Int)), .int (iI ((cu : Nat) : Int))])), (a2, .inl (cI, 160, .inl (rN (ow)))), (a4, .inl (cI, 60, .inl (rN (ix))))]) S (c_longestStretch l D cI cB cZ cO h a1 a2 a3 a4 a5 tt ln ed es ac cu ow ix (2 ^ e1) (by first | assumption | (first | omega | (rw [if_pos (by omega)]) | (rw [if_neg (by omega)]))) (by first | assumption | (first | omega | (rw [if_pos (by omega)]) | (rw [if_neg (by omega)]))) (by first | assumption | (first | omega | (rw [if_pos (by omega)]) | (rw [if_neg (by omega)]))) (by first | assumption | (first | omega | (rw [if_pos (by omega)]) | (rw [if_neg (by omega)])))) gX4_run_X0_longestStretch rfl ⟨rfl, rfl⟩ (by decide +kernel) ⟨Nat.le_of_ble_eq_true rfl, Nat.le_of_ble_eq_true rfl⟩ hE hP [1, 2, 3] rfl 0 0 rfl rfl rfl hl.1 rfl (Nat.le_of_ble_eq_true rfl) dX4_run_46 ⟨Nat.le_of_ble_eq_true rfl, Nat.le_of_ble_eq_true rfl⟩ ?_
            refine lv_istore (lv' := [(4, .int (iI ((bst (isO ow ix (2 ^ e1)) ln : Nat) : Int))), (3, .int (iI ((2 ^ e1 : Nat) : Int))), (0, .ref xp), (1, .int (iI ((e1 : Nat) : Int))), (2, .int (iI 0))]) hx hb dX4_run_49 hl (by decide) rfl (fun ls hl => ?_)
            refine lv_aload_n hx hb dX4_run_51 rfl (lv_at hl 2 rfl) ?_
            refine va_get (D := D) (ci := 4) (v := .ref h) (C := RX4) (T := TX4) (N := 7) hx hb hts nX4_run_X4 hown hK hP 0 rfl rfl 2 (by decide) (hts _ kX4_run_28) (fun _ h9 => h9) rfl dX4_run_52 ?_
            refine lv_iload hx hb dX4_run_55 (lv_at hl 0 rfl) ?_
            refine lv_iload_n hx hb dX4_run_57 rfl (lv_at hl 1 rfl) ?_
            refine callVO (n := 2) (As := [.int (iI ((bst (isO ow ix (2 ^ e1)) ln : Nat) : Int)), .int (iI ((2 ^ e1 : Nat) : Int))]) (rest := []) (wc := [(h, .inr (0, [.ref a1, .ref a2, .ref a3, .int (iI ((tt : Nat) : Int)), .ref a4, .int (iI ((ln : Nat) : Int)), .ref a5, .int (iI ((ed : Nat) : Int)), .int (iI ((es : Nat) : Int)), .int (iI ((ac : Nat) : Int)), .int (iI ((cu : Nat) : Int))])), (a2, .inl (cI, 160, .inl (rN (ow)))), (a4, .inl (cI, 60, .inl (rN (ix))))]) S (c_stretchFrom l D cI cB cZ cO h a1 a2 a3 a4 a5 tt ln ed es ac cu ow ix (bst (isO ow ix (2 ^ e1)) ln) (2 ^ e1) (by first | assumption | (first | omega | (rw [if_pos (by omega)]) | (rw [if_neg (by omega)]))) (by first | assumption | (first | omega | (rw [if_pos (by omega)]) | (rw [if_neg (by omega)]))) (by first | assumption | (first | omega | (rw [if_pos (by omega)]) | (rw [if_neg (by omega)]))) (by first | assumption | (first | omega | (rw [if_pos (by omega)]) | (rw [if_neg (by omega)]))) (by first | assumption | (first | omega | (rw [if_pos (by omega)]) | (rw [if_neg (by omega)])))) gX4_run_X0_stretchFrom rfl ⟨rfl, rfl⟩ (by decide +kernel) ⟨Nat.le_of_ble_eq_true rfl, Nat.le_of_ble_eq_true rfl⟩ hE hP [1, 2, 3] rfl 0 0 rfl rfl rfl hl.1 rfl (Nat.le_of_ble_eq_true rfl) dX4_run_58 ⟨Nat.le_of_ble_eq_true rfl, Nat.le_of_ble_eq_true rfl⟩ ?_
            refine lv_istore (lv' := [(5, .int (iI ((stp (isO ow ix (2 ^ e1)) (bst (isO ow ix (2 ^ e1)) ln) ln : Nat) : Int))), (4, .int (iI ((bst (isO ow ix (2 ^ e1)) ln : Nat) : Int))), (3, .int (iI ((2 ^ e1 : Nat) : Int))), (0, .ref xp), (1, .int (iI ((e1 : Nat) : Int))), (2, .int (iI 0))]) hx hb dX4_run_61 hl (by decide) rfl (fun ls hl => ?_)
            refine lv_iload_n hx hb dX4_run_63 rfl (lv_at hl 5 rfl) ?_
            refine r_if_ne (tgt := 70) hx hb (⟨by decide, by decide⟩) dX4_run_64 (by decide) (fun c_10 => ?_) (fun c_10 => ?_)
            · skip
              exact absurd c_10 (by decide)
            · skip
              refine lv_iload hx hb dX4_run_67 (lv_at hl 0 rfl) ?_
              exact r_iretO hx hb hr hlocks (rfl) dX4_run_69
          · skip
            exfalso; omega
        · skip
          exact absurd c_8 (by decide)

set_option maxHeartbeats 4000000 in
set_option maxRecDepth 100000 in
theorem p_run_e1 (l : Launch) (D : va_G) (cI cB cZ cO : ClassId) (xp : Nat) (xc : Nat) (xs : Nat) (xq : Nat) (xl : Nat) (ag : Nat) (di : Nat) (h : Nat) (a1 : Nat) (a2 : Nat) (a3 : Nat) (a4 : Nat) (a5 : Nat) (tt : Nat) (ln : Nat) (ed : Nat) (es : Nat) (ac : Nat) (cu : Nat) (ow : Nat → Nat) (ix : Nat → Nat) (e1 : Nat) (hln : ln ≤ 60) (hed : ed ≤ 16) (hix : ∀ j, ix j < 160) (how : ∀ k, ow k < 65536) (he1 : e1 < ed) : Met l yX4_run wsX4_run ({ frames := 4, cells := 0, slots := 0, locals := 90 }) (va_Pc [.ref xp, .int (iI ((e1 : Nat) : Int)), .int (iI 1)] (RO D cI cB cZ cO [(xp, .inr (4, [.ref xc, .ref xs, .ref h, .ref xq, .ref xl, .int (iI ((ag : Nat) : Int)), .int (iI ((di : Nat) : Int))])), (h, .inr (0, [.ref a1, .ref a2, .ref a3, .int (iI ((tt : Nat) : Int)), .ref a4, .int (iI ((ln : Nat) : Int)), .ref a5, .int (iI ((ed : Nat) : Int)), .int (iI ((es : Nat) : Int)), .int (iI ((ac : Nat) : Int)), .int (iI ((cu : Nat) : Int))])), (a2, .inl (cI, 160, .inl (rN (ow)))), (a4, .inl (cI, 60, .inl (rN (ix))))])) (QO (if stp (isO ow ix (2 ^ e1)) (bst (isO ow ix (2 ^ e1)) ln) ln = 0 then -9 else ((bst (isO ow ix (2 ^ e1)) ln : Nat) : Int))) 0 0 (fun _ => False) := by
  refine startO (cc := cX4_run) (maxL := 6) (ret := (some .int)) (by decide) rfl (Nat.le_of_ble_eq_true rfl) ?_
  intro p e s m below meth c S hr hlocks hE hP ls hl
  have hx := S.1
  have hb := S.2.1
  have hown := S.2.2.2.1
  have hts := S.2.2.2.2
  have hK := hE.1
  have hl : lv_has ls 6 [(0, .ref xp), (1, .int (iI ((e1 : Nat) : Int))), (2, .int (iI 1))] := hl
  have hbl : bst (isO ow ix (2 ^ e1)) ln ≤ ln := fsF_le _ _
  have hsl := stp_le (isO ow ix (2 ^ e1)) (bst (isO ow ix (2 ^ e1)) ln) ln
  have hpe := pow16 (show e1 < 16 by omega)
  refine lv_iload_n hx hb dX4_run_0 rfl (lv_at hl 1 rfl) ?_
  refine r_iconst hx hb dX4_run_1 ?_
  refine r_icmp_eq (tgt := 16) hx hb (by first | omega | (rw [if_pos (by omega)]) | (rw [if_neg (by omega)])) (⟨by decide, by decide⟩) dX4_run_2 (by decide) (fun c_1 => ?_) (fun c_1 => ?_)
  · skip
    refine lv_iload_n hx hb dX4_run_16 rfl (lv_at hl 2 rfl) ?_
    refine r_if_lt (tgt := 25) hx hb (⟨by decide, by decide⟩) dX4_run_17 (by decide) (fun c_2 => ?_) (fun c_2 => ?_)
    · skip
      exact absurd c_2 (by decide)
    · skip
      refine lv_iload_n hx hb dX4_run_20 rfl (lv_at hl 2 rfl) ?_
      refine r_iconst hx hb dX4_run_21 ?_
      refine r_icmp_le (tgt := 27) hx hb (⟨by decide, by decide⟩) (⟨by decide, by decide⟩) dX4_run_22 (by decide) (fun c_3 => ?_) (fun c_3 => ?_)
      · skip
        refine lv_iload_n hx hb dX4_run_27 rfl (lv_at hl 1 rfl) ?_
        refine r_iconst hx hb dX4_run_28 ?_
        refine r_icmp_ne (tgt := 36) hx hb (by first | omega | (rw [if_pos (by omega)]) | (rw [if_neg (by omega)])) (⟨by decide, by decide⟩) dX4_run_29 (by decide) (fun c_4 => ?_) (fun c_4 => ?_)
        · skip
          refine lv_iload_n hx hb dX4_run_36 rfl (lv_at hl 1 rfl) ?_
          refine callSO (n := 1) (As := [.int (iI ((e1 : Nat) : Int))]) (rest := []) (wc := []) S (c_single l D cI cB cZ cO e1 (by first | assumption | (first | omega | (rw [if_pos (by omega)]) | (rw [if_neg (by omega)])))) gX4_run_X4_single rfl ⟨rfl, rfl⟩ (by decide +kernel) ⟨Nat.le_of_ble_eq_true rfl, Nat.le_of_ble_eq_true rfl⟩ hE hP [] rfl rfl hl.1 rfl (Nat.le_of_ble_eq_true rfl) dX4_run_37 ⟨Nat.le_of_ble_eq_true rfl, Nat.le_of_ble_eq_true rfl⟩ ?_
          refine lv_istore_n (lv' := [(3, .int (iI ((2 ^ e1 : Nat) : Int))), (0, .ref xp), (1, .int (iI ((e1 : Nat) : Int))), (2, .int (iI 1))]) hx hb dX4_run_40 rfl hl (by decide) rfl (fun ls hl => ?_)
          refine lv_aload_n hx hb dX4_run_41 rfl (lv_at hl 1 rfl) ?_
          refine va_get (D := D) (ci := 4) (v := .ref h) (C := RX4) (T := TX4) (N := 7) hx hb hts nX4_run_X4 hown hK hP 0 rfl rfl 2 (by decide) (hts _ kX4_run_28) (fun _ h9 => h9) rfl dX4_run_42 ?_
          refine lv_iload_n hx hb dX4_run_45 rfl (lv_at hl 0 rfl) ?_
          refine callVO (n := 1) (As := [.int (iI ((2 ^ e1 : Nat) : Int))]) (rest := []) (wc := [(h, .inr (0, [.ref a1, .ref a2, .ref a3, .int (iI ((tt : Nat) : Int)), .ref a4, .int (iI ((ln : Nat) : Int)), .ref a5, .int (iI ((ed : Nat) : Int)), .int (iI ((es : Nat) : Int)), .int (iI ((ac : Nat) : Int)), .int (iI ((cu : Nat) : Int))])), (a2, .inl (cI, 160, .inl (rN (ow)))), (a4, .inl (cI, 60, .inl (rN (ix))))]) S (c_longestStretch l D cI cB cZ cO h a1 a2 a3 a4 a5 tt ln ed es ac cu ow ix (2 ^ e1) (by first | assumption | (first | omega | (rw [if_pos (by omega)]) | (rw [if_neg (by omega)]))) (by first | assumption | (first | omega | (rw [if_pos (by omega)]) | (rw [if_neg (by omega)]))) (by first | assumption | (first | omega | (rw [if_pos (by omega)]) | (rw [if_neg (by omega)]))) (by first | assumption | (first | omega | (rw [if_pos (by omega)]) | (rw [if_neg (by omega)])))) gX4_run_X0_longestStretch rfl ⟨rfl, rfl⟩ (by decide +kernel) ⟨Nat.le_of_ble_eq_true rfl, Nat.le_of_ble_eq_true rfl⟩ hE hP [1, 2, 3] rfl 0 0 rfl rfl rfl hl.1 rfl (Nat.le_of_ble_eq_true rfl) dX4_run_46 ⟨Nat.le_of_ble_eq_true rfl, Nat.le_of_ble_eq_true rfl⟩ ?_
          refine lv_istore (lv' := [(4, .int (iI ((bst (isO ow ix (2 ^ e1)) ln : Nat) : Int))), (3, .int (iI ((2 ^ e1 : Nat) : Int))), (0, .ref xp), (1, .int (iI ((e1 : Nat) : Int))), (2, .int (iI 1))]) hx hb dX4_run_49 hl (by decide) rfl (fun ls hl => ?_)
          refine lv_aload_n hx hb dX4_run_51 rfl (lv_at hl 2 rfl) ?_
          refine va_get (D := D) (ci := 4) (v := .ref h) (C := RX4) (T := TX4) (N := 7) hx hb hts nX4_run_X4 hown hK hP 0 rfl rfl 2 (by decide) (hts _ kX4_run_28) (fun _ h9 => h9) rfl dX4_run_52 ?_
          refine lv_iload hx hb dX4_run_55 (lv_at hl 0 rfl) ?_
          refine lv_iload_n hx hb dX4_run_57 rfl (lv_at hl 1 rfl) ?_
          refine callVO (n := 2) (As := [.int (iI ((bst (isO ow ix (2 ^ e1)) ln : Nat) : Int)), .int (iI ((2 ^ e1 : Nat) : Int))]) (rest := []) (wc := [(h, .inr (0, [.ref a1, .ref a2, .ref a3, .int (iI ((tt : Nat) : Int)), .ref a4, .int (iI ((ln : Nat) : Int)), .ref a5, .int (iI ((ed : Nat) : Int)), .int (iI ((es : Nat) : Int)), .int (iI ((ac : Nat) : Int)), .int (iI ((cu : Nat) : Int))])), (a2, .inl (cI, 160, .inl (rN (ow)))), (a4, .inl (cI, 60, .inl (rN (ix))))]) S (c_stretchFrom l D cI cB cZ cO h a1 a2 a3 a4 a5 tt ln ed es ac cu ow ix (bst (isO ow ix (2 ^ e1)) ln) (2 ^ e1) (by first | assumption | (first | omega | (rw [if_pos (by omega)]) | (rw [if_neg (by omega)]))) (by first | assumption | (first | omega | (rw [if_pos (by omega)]) | (rw [if_neg (by omega)]))) (by first | assumption | (first | omega | (rw [if_pos (by omega)]) | (rw [if_neg (by omega)]))) (by first | assumption | (first | omega | (rw [if_pos (by omega)]) | (rw [if_neg (by omega)]))) (by first | assumption | (first | omega | (rw [if_pos (by omega)]) | (rw [if_neg (by omega)])))) gX4_run_X0_stretchFrom rfl ⟨rfl, rfl⟩ (by decide +kernel) ⟨Nat.le_of_ble_eq_true rfl, Nat.le_of_ble_eq_true rfl⟩ hE hP [1, 2, 3] rfl 0 0 rfl rfl rfl hl.1 rfl (Nat.le_of_ble_eq_true rfl) dX4_run_58 ⟨Nat.le_of_ble_eq_true rfl, Nat.le_of_ble_eq_true rfl⟩ ?_
          refine lv_istore (lv' := [(5, .int (iI ((stp (isO ow ix (2 ^ e1)) (bst (isO ow ix (2 ^ e1)) ln) ln : Nat) : Int))), (4, .int (iI ((bst (isO ow ix (2 ^ e1)) ln : Nat) : Int))), (3, .int (iI ((2 ^ e1 : Nat) : Int))), (0, .ref xp), (1, .int (iI ((e1 : Nat) : Int))), (2, .int (iI 1))]) hx hb dX4_run_61 hl (by decide) rfl (fun ls hl => ?_)
          refine lv_iload_n hx hb dX4_run_63 rfl (lv_at hl 5 rfl) ?_
          refine r_if_ne (tgt := 70) hx hb (⟨by decide, by decide⟩) dX4_run_64 (by decide) (fun c_5 => ?_) (fun c_5 => ?_)
          · skip
            refine lv_iload hx hb dX4_run_70 (lv_at hl 0 rfl) ?_
            refine r_if_ne (tgt := 80) hx hb (rg_nat hsl (by omega)) dX4_run_72 (by decide) (fun c_6 => ?_) (fun c_6 => ?_)
            · skip
              refine lv_iload hx hb dX4_run_80 (lv_at hl 1 rfl) ?_
              exact r_iretO hx hb hr hlocks (by first | omega | (rw [if_pos (by omega)]) | (rw [if_neg (by omega)])) dX4_run_82
            · skip
              refine r_bipush hx hb dX4_run_75 (by decide) ?_
              refine lv_goto (tgt := 82) hx hb dX4_run_77 (by decide) ?_
              exact r_iretO hx hb hr hlocks (by first | omega | (rw [if_pos (by omega)]) | (rw [if_neg (by omega)])) dX4_run_82
          · skip
            exact absurd c_5 (by decide)
        · skip
          exfalso; omega
      · skip
        exact absurd c_3 (by decide)
  · skip
    refine lv_aload_n hx hb dX4_run_5 rfl (lv_at hl 0 rfl) ?_
    refine va_get (D := D) (ci := 4) (v := .ref h) (C := RX4) (T := TX4) (N := 7) hx hb hts nX4_run_X4 hown hK hP 0 rfl rfl 2 (by decide) (hts _ kX4_run_28) (fun _ h9 => h9) rfl dX4_run_6 ?_
    refine lv_iload_n hx hb dX4_run_9 rfl (lv_at hl 1 rfl) ?_
    refine callVO (n := 1) (As := [.int (iI ((e1 : Nat) : Int))]) (rest := []) (wc := [(h, .inr (0, [.ref a1, .ref a2, .ref a3, .int (iI ((tt : Nat) : Int)), .ref a4, .int (iI ((ln : Nat) : Int)), .ref a5, .int (iI ((ed : Nat) : Int)), .int (iI ((es : Nat) : Int)), .int (iI ((ac : Nat) : Int)), .int (iI ((cu : Nat) : Int))]))]) S (c_hasEdit l D cI cB cZ cO h a1 a2 a3 a4 a5 tt ln ed es ac cu (((e1 : Nat) : Int)) (by first | assumption | (first | omega | (rw [if_pos (by omega)]) | (rw [if_neg (by omega)]))) (by first | assumption | (first | omega | (rw [if_pos (by omega)]) | (rw [if_neg (by omega)])))) gX4_run_X0_hasEdit rfl ⟨rfl, rfl⟩ (by decide +kernel) ⟨Nat.le_of_ble_eq_true rfl, Nat.le_of_ble_eq_true rfl⟩ hE hP [1] rfl 0 0 rfl rfl rfl hl.1 rfl (Nat.le_of_ble_eq_true rfl) dX4_run_10 ⟨Nat.le_of_ble_eq_true rfl, Nat.le_of_ble_eq_true rfl⟩ ?_
    refine r_ifb_eq (tgt := 25) hx hb dX4_run_13 (by decide) (fun c_7 => ?_) (fun c_7 => ?_)
    · skip
      exfalso; omega
    · skip
      refine lv_iload_n hx hb dX4_run_16 rfl (lv_at hl 2 rfl) ?_
      refine r_if_lt (tgt := 25) hx hb (⟨by decide, by decide⟩) dX4_run_17 (by decide) (fun c_8 => ?_) (fun c_8 => ?_)
      · skip
        exact absurd c_8 (by decide)
      · skip
        refine lv_iload_n hx hb dX4_run_20 rfl (lv_at hl 2 rfl) ?_
        refine r_iconst hx hb dX4_run_21 ?_
        refine r_icmp_le (tgt := 27) hx hb (⟨by decide, by decide⟩) (⟨by decide, by decide⟩) dX4_run_22 (by decide) (fun c_9 => ?_) (fun c_9 => ?_)
        · skip
          refine lv_iload_n hx hb dX4_run_27 rfl (lv_at hl 1 rfl) ?_
          refine r_iconst hx hb dX4_run_28 ?_
          refine r_icmp_ne (tgt := 36) hx hb (by first | omega | (rw [if_pos (by omega)]) | (rw [if_neg (by omega)])) (⟨by decide, by decide⟩) dX4_run_29 (by decide) (fun c_10 => ?_) (fun c_10 => ?_)
          · skip
            refine lv_iload_n hx hb dX4_run_36 rfl (lv_at hl 1 rfl) ?_
            refine callSO (n := 1) (As := [.int (iI ((e1 : Nat) : Int))]) (rest := []) (wc := []) S (c_single l D cI cB cZ cO e1 (by first | assumption | (first | omega | (rw [if_pos (by omega)]) | (rw [if_neg (by omega)])))) gX4_run_X4_single rfl ⟨rfl, rfl⟩ (by decide +kernel) ⟨Nat.le_of_ble_eq_true rfl, Nat.le_of_ble_eq_true rfl⟩ hE hP [] rfl rfl hl.1 rfl (Nat.le_of_ble_eq_true rfl) dX4_run_37 ⟨Nat.le_of_ble_eq_true rfl, Nat.le_of_ble_eq_true rfl⟩ ?_
            refine lv_istore_n (lv' := [(3, .int (iI ((2 ^ e1 : Nat) : Int))), (0, .ref xp), (1, .int (iI ((e1 : Nat) : Int))), (2, .int (iI 1))]) hx hb dX4_run_40 rfl hl (by decide) rfl (fun ls hl => ?_)
            refine lv_aload_n hx hb dX4_run_41 rfl (lv_at hl 1 rfl) ?_
            refine va_get (D := D) (ci := 4) (v := .ref h) (C := RX4) (T := TX4) (N := 7) hx hb hts nX4_run_X4 hown hK hP 0 rfl rfl 2 (by decide) (hts _ kX4_run_28) (fun _ h9 => h9) rfl dX4_run_42 ?_
            refine lv_iload_n hx hb dX4_run_45 rfl (lv_at hl 0 rfl) ?_
            refine callVO (n := 1) (As := [.int (iI ((2 ^ e1 : Nat) : Int))]) (rest := []) (wc := [(h, .inr (0, [.ref a1, .ref a2, .ref a3, .int (iI ((tt : Nat) : Int)), .ref a4, .int (iI ((ln : Nat) : Int)), .ref a5, .int (iI ((ed : Nat) : Int)), .int (iI ((es : Nat) : Int)), .int (iI ((ac : Nat) : Int)), .int (iI ((cu : Nat) : Int))])), (a2, .inl (cI, 160, .inl (rN (ow)))), (a4, .inl (cI, 60, .inl (rN (ix))))]) S (c_longestStretch l D cI cB cZ cO h a1 a2 a3 a4 a5 tt ln ed es ac cu ow ix (2 ^ e1) (by first | assumption | (first | omega | (rw [if_pos (by omega)]) | (rw [if_neg (by omega)]))) (by first | assumption | (first | omega | (rw [if_pos (by omega)]) | (rw [if_neg (by omega)]))) (by first | assumption | (first | omega | (rw [if_pos (by omega)]) | (rw [if_neg (by omega)]))) (by first | assumption | (first | omega | (rw [if_pos (by omega)]) | (rw [if_neg (by omega)])))) gX4_run_X0_longestStretch rfl ⟨rfl, rfl⟩ (by decide +kernel) ⟨Nat.le_of_ble_eq_true rfl, Nat.le_of_ble_eq_true rfl⟩ hE hP [1, 2, 3] rfl 0 0 rfl rfl rfl hl.1 rfl (Nat.le_of_ble_eq_true rfl) dX4_run_46 ⟨Nat.le_of_ble_eq_true rfl, Nat.le_of_ble_eq_true rfl⟩ ?_
            refine lv_istore (lv' := [(4, .int (iI ((bst (isO ow ix (2 ^ e1)) ln : Nat) : Int))), (3, .int (iI ((2 ^ e1 : Nat) : Int))), (0, .ref xp), (1, .int (iI ((e1 : Nat) : Int))), (2, .int (iI 1))]) hx hb dX4_run_49 hl (by decide) rfl (fun ls hl => ?_)
            refine lv_aload_n hx hb dX4_run_51 rfl (lv_at hl 2 rfl) ?_
            refine va_get (D := D) (ci := 4) (v := .ref h) (C := RX4) (T := TX4) (N := 7) hx hb hts nX4_run_X4 hown hK hP 0 rfl rfl 2 (by decide) (hts _ kX4_run_28) (fun _ h9 => h9) rfl dX4_run_52 ?_
            refine lv_iload hx hb dX4_run_55 (lv_at hl 0 rfl) ?_
            refine lv_iload_n hx hb dX4_run_57 rfl (lv_at hl 1 rfl) ?_
            refine callVO (n := 2) (As := [.int (iI ((bst (isO ow ix (2 ^ e1)) ln : Nat) : Int)), .int (iI ((2 ^ e1 : Nat) : Int))]) (rest := []) (wc := [(h, .inr (0, [.ref a1, .ref a2, .ref a3, .int (iI ((tt : Nat) : Int)), .ref a4, .int (iI ((ln : Nat) : Int)), .ref a5, .int (iI ((ed : Nat) : Int)), .int (iI ((es : Nat) : Int)), .int (iI ((ac : Nat) : Int)), .int (iI ((cu : Nat) : Int))])), (a2, .inl (cI, 160, .inl (rN (ow)))), (a4, .inl (cI, 60, .inl (rN (ix))))]) S (c_stretchFrom l D cI cB cZ cO h a1 a2 a3 a4 a5 tt ln ed es ac cu ow ix (bst (isO ow ix (2 ^ e1)) ln) (2 ^ e1) (by first | assumption | (first | omega | (rw [if_pos (by omega)]) | (rw [if_neg (by omega)]))) (by first | assumption | (first | omega | (rw [if_pos (by omega)]) | (rw [if_neg (by omega)]))) (by first | assumption | (first | omega | (rw [if_pos (by omega)]) | (rw [if_neg (by omega)]))) (by first | assumption | (first | omega | (rw [if_pos (by omega)]) | (rw [if_neg (by omega)]))) (by first | assumption | (first | omega | (rw [if_pos (by omega)]) | (rw [if_neg (by omega)])))) gX4_run_X0_stretchFrom rfl ⟨rfl, rfl⟩ (by decide +kernel) ⟨Nat.le_of_ble_eq_true rfl, Nat.le_of_ble_eq_true rfl⟩ hE hP [1, 2, 3] rfl 0 0 rfl rfl rfl hl.1 rfl (Nat.le_of_ble_eq_true rfl) dX4_run_58 ⟨Nat.le_of_ble_eq_true rfl, Nat.le_of_ble_eq_true rfl⟩ ?_
            refine lv_istore (lv' := [(5, .int (iI ((stp (isO ow ix (2 ^ e1)) (bst (isO ow ix (2 ^ e1)) ln) ln : Nat) : Int))), (4, .int (iI ((bst (isO ow ix (2 ^ e1)) ln : Nat) : Int))), (3, .int (iI ((2 ^ e1 : Nat) : Int))), (0, .ref xp), (1, .int (iI ((e1 : Nat) : Int))), (2, .int (iI 1))]) hx hb dX4_run_61 hl (by decide) rfl (fun ls hl => ?_)
            refine lv_iload_n hx hb dX4_run_63 rfl (lv_at hl 5 rfl) ?_
            refine r_if_ne (tgt := 70) hx hb (⟨by decide, by decide⟩) dX4_run_64 (by decide) (fun c_11 => ?_) (fun c_11 => ?_)
            · skip
              refine lv_iload hx hb dX4_run_70 (lv_at hl 0 rfl) ?_
              refine r_if_ne (tgt := 80) hx hb (rg_nat hsl (by omega)) dX4_run_72 (by decide) (fun c_12 => ?_) (fun c_12 => ?_)
              · skip
                refine lv_iload hx hb dX4_run_80 (lv_at hl 1 rfl) ?_
                exact r_iretO hx hb hr hlocks (by first | omega | (rw [if_pos (by omega)]) | (rw [if_neg (by omega)])) dX4_run_82
              · skip
                refine r_bipush hx hb dX4_run_75 (by decide) ?_
                refine lv_goto (tgt := 82) hx hb dX4_run_77 (by decide) ?_
                exact r_iretO hx hb hr hlocks (by first | omega | (rw [if_pos (by omega)]) | (rw [if_neg (by omega)])) dX4_run_82
            · skip
              exact absurd c_11 (by decide)
          · skip
            exfalso; omega
        · skip
          exact absurd c_9 (by decide)

set_option maxHeartbeats 4000000 in
set_option maxRecDepth 100000 in
theorem p_run_n0 (l : Launch) (D : va_G) (cI cB cZ cO : ClassId) (xp : Nat) (xc : Nat) (xs : Nat) (xq : Nat) (xl : Nat) (ag : Nat) (di : Nat) (h : Nat) (a1 : Nat) (a2 : Nat) (a3 : Nat) (a4 : Nat) (a5 : Nat) (tt : Nat) (ln : Nat) (ed : Nat) (es : Nat) (ac : Nat) (cu : Nat) (ow : Nat → Nat) (ix : Nat → Nat) (hln : ln ≤ 60) (hed : ed ≤ 16) (hix : ∀ j, ix j < 160) (how : ∀ k, ow k < 65536) : Met l yX4_run wsX4_run ({ frames := 4, cells := 0, slots := 0, locals := 90 }) (va_Pc [.ref xp, .int (iI (-1)), .int (iI 0)] (RO D cI cB cZ cO [(xp, .inr (4, [.ref xc, .ref xs, .ref h, .ref xq, .ref xl, .int (iI ((ag : Nat) : Int)), .int (iI ((di : Nat) : Int))])), (h, .inr (0, [.ref a1, .ref a2, .ref a3, .int (iI ((tt : Nat) : Int)), .ref a4, .int (iI ((ln : Nat) : Int)), .ref a5, .int (iI ((ed : Nat) : Int)), .int (iI ((es : Nat) : Int)), .int (iI ((ac : Nat) : Int)), .int (iI ((cu : Nat) : Int))])), (a2, .inl (cI, 160, .inl (rN (ow)))), (a4, .inl (cI, 60, .inl (rN (ix))))])) (QO ((stp (isO ow ix (0)) (bst (isO ow ix (0)) ln) ln : Nat) : Int)) 0 0 (fun _ => False) := by
  refine startO (cc := cX4_run) (maxL := 6) (ret := (some .int)) (by decide) rfl (Nat.le_of_ble_eq_true rfl) ?_
  intro p e s m below meth c S hr hlocks hE hP ls hl
  have hx := S.1
  have hb := S.2.1
  have hown := S.2.2.2.1
  have hts := S.2.2.2.2
  have hK := hE.1
  have hl : lv_has ls 6 [(0, .ref xp), (1, .int (iI (-1))), (2, .int (iI 0))] := hl
  have hbl : bst (isO ow ix (0)) ln ≤ ln := fsF_le _ _
  have hsl := stp_le (isO ow ix (0)) (bst (isO ow ix (0)) ln) ln
  refine lv_iload_n hx hb dX4_run_0 rfl (lv_at hl 1 rfl) ?_
  refine r_iconst hx hb dX4_run_1 ?_
  refine r_icmp_eq (tgt := 16) hx hb (⟨by decide, by decide⟩) (⟨by decide, by decide⟩) dX4_run_2 (by decide) (fun c_1 => ?_) (fun c_1 => ?_)
  · skip
    refine lv_iload_n hx hb dX4_run_16 rfl (lv_at hl 2 rfl) ?_
    refine r_if_lt (tgt := 25) hx hb (⟨by decide, by decide⟩) dX4_run_17 (by decide) (fun c_2 => ?_) (fun c_2 => ?_)
    · skip
      exact absurd c_2 (by decide)
    · skip
      refine lv_iload_n hx hb dX4_run_20 rfl (lv_at hl 2 rfl) ?_
      refine r_iconst hx hb dX4_run_21 ?_
      refine r_icmp_le (tgt := 27) hx hb (⟨by decide, by decide⟩) (⟨by decide, by decide⟩) dX4_run_22 (by decide) (fun c_3 => ?_) (fun c_3 => ?_)
      · skip
        refine lv_iload_n hx hb dX4_run_27 rfl (lv_at hl 1 rfl) ?_
        refine r_iconst hx hb dX4_run_28 ?_
        refine r_icmp_ne (tgt := 36) hx hb (⟨by decide, by decide⟩) (⟨by decide, by decide⟩) dX4_run_29 (by decide) (fun c_4 => ?_) (fun c_4 => ?_)
        · skip
          exact absurd c_4 (by decide)
        · skip
          refine r_iconst hx hb dX4_run_32 ?_
          refine lv_goto (tgt := 40) hx hb dX4_run_33 (by decide) ?_
          refine lv_istore_n (lv' := [(3, .int (iI 0)), (0, .ref xp), (1, .int (iI (-1))), (2, .int (iI 0))]) hx hb dX4_run_40 rfl hl (by decide) rfl (fun ls hl => ?_)
          refine lv_aload_n hx hb dX4_run_41 rfl (lv_at hl 1 rfl) ?_
          refine va_get (D := D) (ci := 4) (v := .ref h) (C := RX4) (T := TX4) (N := 7) hx hb hts nX4_run_X4 hown hK hP 0 rfl rfl 2 (by decide) (hts _ kX4_run_28) (fun _ h9 => h9) rfl dX4_run_42 ?_
          refine lv_iload_n hx hb dX4_run_45 rfl (lv_at hl 0 rfl) ?_
          refine callVO (n := 1) (As := [.int (iI 0)]) (rest := []) (wc := [(h, .inr (0, [.ref a1, .ref a2, .ref a3, .int (iI ((tt : Nat) : Int)), .ref a4, .int (iI ((ln : Nat) : Int)), .ref a5, .int (iI ((ed : Nat) : Int)), .int (iI ((es : Nat) : Int)), .int (iI ((ac : Nat) : Int)), .int (iI ((cu : Nat) : Int))])), (a2, .inl (cI, 160, .inl (rN (ow)))), (a4, .inl (cI, 60, .inl (rN (ix))))]) S (c_longestStretch l D cI cB cZ cO h a1 a2 a3 a4 a5 tt ln ed es ac cu ow ix 0 (by first | assumption | (first | omega | (rw [if_pos (by omega)]) | (rw [if_neg (by omega)]))) (by first | assumption | (first | omega | (rw [if_pos (by omega)]) | (rw [if_neg (by omega)]))) (by first | assumption | (first | omega | (rw [if_pos (by omega)]) | (rw [if_neg (by omega)]))) (by first | assumption | (first | omega | (rw [if_pos (by omega)]) | (rw [if_neg (by omega)])))) gX4_run_X0_longestStretch rfl ⟨rfl, rfl⟩ (by decide +kernel) ⟨Nat.le_of_ble_eq_true rfl, Nat.le_of_ble_eq_true rfl⟩ hE hP [1, 2, 3] rfl 0 0 rfl rfl rfl hl.1 rfl (Nat.le_of_ble_eq_true rfl) dX4_run_46 ⟨Nat.le_of_ble_eq_true rfl, Nat.le_of_ble_eq_true rfl⟩ ?_
          refine lv_istore (lv' := [(4, .int (iI ((bst (isO ow ix 0) ln : Nat) : Int))), (3, .int (iI 0)), (0, .ref xp), (1, .int (iI (-1))), (2, .int (iI 0))]) hx hb dX4_run_49 hl (by decide) rfl (fun ls hl => ?_)
          refine lv_aload_n hx hb dX4_run_51 rfl (lv_at hl 2 rfl) ?_
          refine va_get (D := D) (ci := 4) (v := .ref h) (C := RX4) (T := TX4) (N := 7) hx hb hts nX4_run_X4 hown hK hP 0 rfl rfl 2 (by decide) (hts _ kX4_run_28) (fun _ h9 => h9) rfl dX4_run_52 ?_
          refine lv_iload hx hb dX4_run_55 (lv_at hl 0 rfl) ?_
          refine lv_iload_n hx hb dX4_run_57 rfl (lv_at hl 1 rfl) ?_
          refine callVO (n := 2) (As := [.int (iI ((bst (isO ow ix 0) ln : Nat) : Int)), .int (iI 0)]) (rest := []) (wc := [(h, .inr (0, [.ref a1, .ref a2, .ref a3, .int (iI ((tt : Nat) : Int)), .ref a4, .int (iI ((ln : Nat) : Int)), .ref a5, .int (iI ((ed : Nat) : Int)), .int (iI ((es : Nat) : Int)), .int (iI ((ac : Nat) : Int)), .int (iI ((cu : Nat) : Int))])), (a2, .inl (cI, 160, .inl (rN (ow)))), (a4, .inl (cI, 60, .inl (rN (ix))))]) S (c_stretchFrom l D cI cB cZ cO h a1 a2 a3 a4 a5 tt ln ed es ac cu ow ix (bst (isO ow ix 0) ln) 0 (by first | assumption | (first | omega | (rw [if_pos (by omega)]) | (rw [if_neg (by omega)]))) (by first | assumption | (first | omega | (rw [if_pos (by omega)]) | (rw [if_neg (by omega)]))) (by first | assumption | (first | omega | (rw [if_pos (by omega)]) | (rw [if_neg (by omega)]))) (by first | assumption | (first | omega | (rw [if_pos (by omega)]) | (rw [if_neg (by omega)]))) (by first | assumption | (first | omega | (rw [if_pos (by omega)]) | (rw [if_neg (by omega)])))) gX4_run_X0_stretchFrom rfl ⟨rfl, rfl⟩ (by decide +kernel) ⟨Nat.le_of_ble_eq_true rfl, Nat.le_of_ble_eq_true rfl⟩ hE hP [1, 2, 3] rfl 0 0 rfl rfl rfl hl.1 rfl (Nat.le_of_ble_eq_true rfl) dX4_run_58 ⟨Nat.le_of_ble_eq_true rfl, Nat.le_of_ble_eq_true rfl⟩ ?_
          refine lv_istore (lv' := [(5, .int (iI ((stp (isO ow ix 0) (bst (isO ow ix 0) ln) ln : Nat) : Int))), (4, .int (iI ((bst (isO ow ix 0) ln : Nat) : Int))), (3, .int (iI 0)), (0, .ref xp), (1, .int (iI (-1))), (2, .int (iI 0))]) hx hb dX4_run_61 hl (by decide) rfl (fun ls hl => ?_)
          refine lv_iload_n hx hb dX4_run_63 rfl (lv_at hl 5 rfl) ?_
          refine r_if_ne (tgt := 70) hx hb (⟨by decide, by decide⟩) dX4_run_64 (by decide) (fun c_5 => ?_) (fun c_5 => ?_)
          · skip
            exact absurd c_5 (by decide)
          · skip
            refine lv_iload hx hb dX4_run_67 (lv_at hl 0 rfl) ?_
            exact r_iretO hx hb hr hlocks (by first | omega | (rw [if_pos (by omega)]) | (rw [if_neg (by omega)])) dX4_run_69
      · skip
        exact absurd c_3 (by decide)
  · skip
    exact absurd c_1 (by decide)

set_option maxHeartbeats 4000000 in
set_option maxRecDepth 100000 in
theorem p_run_n1 (l : Launch) (D : va_G) (cI cB cZ cO : ClassId) (xp : Nat) (xc : Nat) (xs : Nat) (xq : Nat) (xl : Nat) (ag : Nat) (di : Nat) (h : Nat) (a1 : Nat) (a2 : Nat) (a3 : Nat) (a4 : Nat) (a5 : Nat) (tt : Nat) (ln : Nat) (ed : Nat) (es : Nat) (ac : Nat) (cu : Nat) (ow : Nat → Nat) (ix : Nat → Nat) (hln : ln ≤ 60) (hed : ed ≤ 16) (hix : ∀ j, ix j < 160) (how : ∀ k, ow k < 65536) : Met l yX4_run wsX4_run ({ frames := 4, cells := 0, slots := 0, locals := 90 }) (va_Pc [.ref xp, .int (iI (-1)), .int (iI 1)] (RO D cI cB cZ cO [(xp, .inr (4, [.ref xc, .ref xs, .ref h, .ref xq, .ref xl, .int (iI ((ag : Nat) : Int)), .int (iI ((di : Nat) : Int))])), (h, .inr (0, [.ref a1, .ref a2, .ref a3, .int (iI ((tt : Nat) : Int)), .ref a4, .int (iI ((ln : Nat) : Int)), .ref a5, .int (iI ((ed : Nat) : Int)), .int (iI ((es : Nat) : Int)), .int (iI ((ac : Nat) : Int)), .int (iI ((cu : Nat) : Int))])), (a2, .inl (cI, 160, .inl (rN (ow)))), (a4, .inl (cI, 60, .inl (rN (ix))))])) (QO (if stp (isO ow ix (0)) (bst (isO ow ix (0)) ln) ln = 0 then -9 else ((bst (isO ow ix (0)) ln : Nat) : Int))) 0 0 (fun _ => False) := by
  refine startO (cc := cX4_run) (maxL := 6) (ret := (some .int)) (by decide) rfl (Nat.le_of_ble_eq_true rfl) ?_
  intro p e s m below meth c S hr hlocks hE hP ls hl
  have hx := S.1
  have hb := S.2.1
  have hown := S.2.2.2.1
  have hts := S.2.2.2.2
  have hK := hE.1
  have hl : lv_has ls 6 [(0, .ref xp), (1, .int (iI (-1))), (2, .int (iI 1))] := hl
  have hbl : bst (isO ow ix (0)) ln ≤ ln := fsF_le _ _
  have hsl := stp_le (isO ow ix (0)) (bst (isO ow ix (0)) ln) ln
  refine lv_iload_n hx hb dX4_run_0 rfl (lv_at hl 1 rfl) ?_
  refine r_iconst hx hb dX4_run_1 ?_
  refine r_icmp_eq (tgt := 16) hx hb (⟨by decide, by decide⟩) (⟨by decide, by decide⟩) dX4_run_2 (by decide) (fun c_1 => ?_) (fun c_1 => ?_)
  · skip
    refine lv_iload_n hx hb dX4_run_16 rfl (lv_at hl 2 rfl) ?_
    refine r_if_lt (tgt := 25) hx hb (⟨by decide, by decide⟩) dX4_run_17 (by decide) (fun c_2 => ?_) (fun c_2 => ?_)
    · skip
      exact absurd c_2 (by decide)
    · skip
      refine lv_iload_n hx hb dX4_run_20 rfl (lv_at hl 2 rfl) ?_
      refine r_iconst hx hb dX4_run_21 ?_
      refine r_icmp_le (tgt := 27) hx hb (⟨by decide, by decide⟩) (⟨by decide, by decide⟩) dX4_run_22 (by decide) (fun c_3 => ?_) (fun c_3 => ?_)
      · skip
        refine lv_iload_n hx hb dX4_run_27 rfl (lv_at hl 1 rfl) ?_
        refine r_iconst hx hb dX4_run_28 ?_
        refine r_icmp_ne (tgt := 36) hx hb (⟨by decide, by decide⟩) (⟨by decide, by decide⟩) dX4_run_29 (by decide) (fun c_4 => ?_) (fun c_4 => ?_)
        · skip
          exact absurd c_4 (by decide)
        · skip
          refine r_iconst hx hb dX4_run_32 ?_
          refine lv_goto (tgt := 40) hx hb dX4_run_33 (by decide) ?_
          refine lv_istore_n (lv' := [(3, .int (iI 0)), (0, .ref xp), (1, .int (iI (-1))), (2, .int (iI 1))]) hx hb dX4_run_40 rfl hl (by decide) rfl (fun ls hl => ?_)
          refine lv_aload_n hx hb dX4_run_41 rfl (lv_at hl 1 rfl) ?_
          refine va_get (D := D) (ci := 4) (v := .ref h) (C := RX4) (T := TX4) (N := 7) hx hb hts nX4_run_X4 hown hK hP 0 rfl rfl 2 (by decide) (hts _ kX4_run_28) (fun _ h9 => h9) rfl dX4_run_42 ?_
          refine lv_iload_n hx hb dX4_run_45 rfl (lv_at hl 0 rfl) ?_
          refine callVO (n := 1) (As := [.int (iI 0)]) (rest := []) (wc := [(h, .inr (0, [.ref a1, .ref a2, .ref a3, .int (iI ((tt : Nat) : Int)), .ref a4, .int (iI ((ln : Nat) : Int)), .ref a5, .int (iI ((ed : Nat) : Int)), .int (iI ((es : Nat) : Int)), .int (iI ((ac : Nat) : Int)), .int (iI ((cu : Nat) : Int))])), (a2, .inl (cI, 160, .inl (rN (ow)))), (a4, .inl (cI, 60, .inl (rN (ix))))]) S (c_longestStretch l D cI cB cZ cO h a1 a2 a3 a4 a5 tt ln ed es ac cu ow ix 0 (by first | assumption | (first | omega | (rw [if_pos (by omega)]) | (rw [if_neg (by omega)]))) (by first | assumption | (first | omega | (rw [if_pos (by omega)]) | (rw [if_neg (by omega)]))) (by first | assumption | (first | omega | (rw [if_pos (by omega)]) | (rw [if_neg (by omega)]))) (by first | assumption | (first | omega | (rw [if_pos (by omega)]) | (rw [if_neg (by omega)])))) gX4_run_X0_longestStretch rfl ⟨rfl, rfl⟩ (by decide +kernel) ⟨Nat.le_of_ble_eq_true rfl, Nat.le_of_ble_eq_true rfl⟩ hE hP [1, 2, 3] rfl 0 0 rfl rfl rfl hl.1 rfl (Nat.le_of_ble_eq_true rfl) dX4_run_46 ⟨Nat.le_of_ble_eq_true rfl, Nat.le_of_ble_eq_true rfl⟩ ?_
          refine lv_istore (lv' := [(4, .int (iI ((bst (isO ow ix 0) ln : Nat) : Int))), (3, .int (iI 0)), (0, .ref xp), (1, .int (iI (-1))), (2, .int (iI 1))]) hx hb dX4_run_49 hl (by decide) rfl (fun ls hl => ?_)
          refine lv_aload_n hx hb dX4_run_51 rfl (lv_at hl 2 rfl) ?_
          refine va_get (D := D) (ci := 4) (v := .ref h) (C := RX4) (T := TX4) (N := 7) hx hb hts nX4_run_X4 hown hK hP 0 rfl rfl 2 (by decide) (hts _ kX4_run_28) (fun _ h9 => h9) rfl dX4_run_52 ?_
          refine lv_iload hx hb dX4_run_55 (lv_at hl 0 rfl) ?_
          refine lv_iload_n hx hb dX4_run_57 rfl (lv_at hl 1 rfl) ?_
          refine callVO (n := 2) (As := [.int (iI ((bst (isO ow ix 0) ln : Nat) : Int)), .int (iI 0)]) (rest := []) (wc := [(h, .inr (0, [.ref a1, .ref a2, .ref a3, .int (iI ((tt : Nat) : Int)), .ref a4, .int (iI ((ln : Nat) : Int)), .ref a5, .int (iI ((ed : Nat) : Int)), .int (iI ((es : Nat) : Int)), .int (iI ((ac : Nat) : Int)), .int (iI ((cu : Nat) : Int))])), (a2, .inl (cI, 160, .inl (rN (ow)))), (a4, .inl (cI, 60, .inl (rN (ix))))]) S (c_stretchFrom l D cI cB cZ cO h a1 a2 a3 a4 a5 tt ln ed es ac cu ow ix (bst (isO ow ix 0) ln) 0 (by first | assumption | (first | omega | (rw [if_pos (by omega)]) | (rw [if_neg (by omega)]))) (by first | assumption | (first | omega | (rw [if_pos (by omega)]) | (rw [if_neg (by omega)]))) (by first | assumption | (first | omega | (rw [if_pos (by omega)]) | (rw [if_neg (by omega)]))) (by first | assumption | (first | omega | (rw [if_pos (by omega)]) | (rw [if_neg (by omega)]))) (by first | assumption | (first | omega | (rw [if_pos (by omega)]) | (rw [if_neg (by omega)])))) gX4_run_X0_stretchFrom rfl ⟨rfl, rfl⟩ (by decide +kernel) ⟨Nat.le_of_ble_eq_true rfl, Nat.le_of_ble_eq_true rfl⟩ hE hP [1, 2, 3] rfl 0 0 rfl rfl rfl hl.1 rfl (Nat.le_of_ble_eq_true rfl) dX4_run_58 ⟨Nat.le_of_ble_eq_true rfl, Nat.le_of_ble_eq_true rfl⟩ ?_
          refine lv_istore (lv' := [(5, .int (iI ((stp (isO ow ix 0) (bst (isO ow ix 0) ln) ln : Nat) : Int))), (4, .int (iI ((bst (isO ow ix 0) ln : Nat) : Int))), (3, .int (iI 0)), (0, .ref xp), (1, .int (iI (-1))), (2, .int (iI 1))]) hx hb dX4_run_61 hl (by decide) rfl (fun ls hl => ?_)
          refine lv_iload_n hx hb dX4_run_63 rfl (lv_at hl 5 rfl) ?_
          refine r_if_ne (tgt := 70) hx hb (⟨by decide, by decide⟩) dX4_run_64 (by decide) (fun c_5 => ?_) (fun c_5 => ?_)
          · skip
            refine lv_iload hx hb dX4_run_70 (lv_at hl 0 rfl) ?_
            refine r_if_ne (tgt := 80) hx hb (by first | omega | (rw [if_pos (by omega)]) | (rw [if_neg (by omega)])) dX4_run_72 (by decide) (fun c_6 => ?_) (fun c_6 => ?_)
            · skip
              refine lv_iload hx hb dX4_run_80 (lv_at hl 1 rfl) ?_
              exact r_iretO hx hb hr hlocks (by first | omega | (rw [if_pos (by omega)]) | (rw [if_neg (by omega)])) dX4_run_82
            · skip
              refine r_bipush hx hb dX4_run_75 (by decide) ?_
              refine lv_goto (tgt := 82) hx hb dX4_run_77 (by decide) ?_
              exact r_iretO hx hb hr hlocks (by first | omega | (rw [if_pos (by omega)]) | (rw [if_neg (by omega)])) dX4_run_82
          · skip
            exact absurd c_5 (by decide)
      · skip
        exact absurd c_3 (by decide)
  · skip
    exact absurd c_1 (by decide)

theorem kX4_clearing_28 : Cond.fieldLink RX4 28 "PricedUndo" "buffer" "LPricedUndo$Buffer;" ∈ wsX4_clearing := by decide +kernel
theorem nX4_clearing_X4 : ∀ w ∈ u_ws RX4 TX4 7, w ∈ wsX4_clearing := by decide +kernel
set_option maxHeartbeats 4000000 in
set_option maxRecDepth 100000 in
theorem p_clearing_bad (l : Launch) (D : va_G) (cI cB cZ cO : ClassId) (xp : Nat) (xc : Nat) (xs : Nat) (xq : Nat) (xl : Nat) (ag : Nat) (di : Nat) (h : Nat) (a1 : Nat) (a2 : Nat) (a3 : Nat) (a4 : Nat) (a5 : Nat) (tt : Nat) (ln : Nat) (ed : Nat) (es : Nat) (ac : Nat) (cu : Nat) (x : Int) (y : Int) (hln : ln ≤ 60) (rx : rg x) (ry : rg y) (hbad : ¬ (0 ≤ x ∧ x < y ∧ y ≤ (ln : Int))) : Met l yX4_clearing wsX4_clearing ({ frames := 1, cells := 0, slots := 0, locals := 22 }) (va_Pc [.ref xp, .int (iI (x)), .int (iI (y))] (RO D cI cB cZ cO [(xp, .inr (4, [.ref xc, .ref xs, .ref h, .ref xq, .ref xl, .int (iI ((ag : Nat) : Int)), .int (iI ((di : Nat) : Int))])), (h, .inr (0, [.ref a1, .ref a2, .ref a3, .int (iI ((tt : Nat) : Int)), .ref a4, .int (iI ((ln : Nat) : Int)), .ref a5, .int (iI ((ed : Nat) : Int)), .int (iI ((es : Nat) : Int)), .int (iI ((ac : Nat) : Int)), .int (iI ((cu : Nat) : Int))]))])) (QO (-1)) 0 0 (fun _ => False) := by
  refine startO (cc := cX4_clearing) (maxL := 3) (ret := (some .int)) (by decide) rfl (Nat.le_of_ble_eq_true rfl) ?_
  intro p e s m below meth c S hr hlocks hE hP ls hl
  have hx := S.1
  have hb := S.2.1
  have hown := S.2.2.2.1
  have hts := S.2.2.2.2
  have hK := hE.1
  have hl : lv_has ls 3 [(0, .ref xp), (1, .int (iI (x))), (2, .int (iI (y)))] := hl
  refine lv_aload_n hx hb dX4_clearing_0 rfl (lv_at hl 0 rfl) ?_
  refine va_get (D := D) (ci := 4) (v := .ref h) (C := RX4) (T := TX4) (N := 7) hx hb hts nX4_clearing_X4 hown hK hP 0 rfl rfl 2 (by decide) (hts _ kX4_clearing_28) (fun _ h9 => h9) rfl dX4_clearing_1 ?_
  refine lv_iload_n hx hb dX4_clearing_4 rfl (lv_at hl 1 rfl) ?_
  refine lv_iload_n hx hb dX4_clearing_5 rfl (lv_at hl 2 rfl) ?_
  refine callVO (n := 2) (As := [.int (iI (x)), .int (iI (y))]) (rest := []) (wc := [(h, .inr (0, [.ref a1, .ref a2, .ref a3, .int (iI ((tt : Nat) : Int)), .ref a4, .int (iI ((ln : Nat) : Int)), .ref a5, .int (iI ((ed : Nat) : Int)), .int (iI ((es : Nat) : Int)), .int (iI ((ac : Nat) : Int)), .int (iI ((cu : Nat) : Int))]))]) S (c_hasStretch l D cI cB cZ cO h a1 a2 a3 a4 a5 tt ln ed es ac cu x y (by first | assumption | (omega)) (by first | assumption | (omega)) (by first | assumption | (omega))) gX4_clearing_X0_hasStretch rfl ⟨rfl, rfl⟩ (by decide +kernel) ⟨Nat.le_of_ble_eq_true rfl, Nat.le_of_ble_eq_true rfl⟩ hE hP [1] rfl 0 0 rfl rfl rfl hl.1 rfl (Nat.le_of_ble_eq_true rfl) dX4_clearing_6 ⟨Nat.le_of_ble_eq_true rfl, Nat.le_of_ble_eq_true rfl⟩ ?_
  refine r_ifb_ne (tgt := 14) hx hb dX4_clearing_9 (by decide) (fun c_1 => ?_) (fun c_1 => ?_)
  · skip
    exfalso; exact hbad (by assumption)
  · skip
    refine r_iconst hx hb dX4_clearing_12 ?_
    exact r_iretO hx hb hr hlocks (rfl) dX4_clearing_13

set_option maxHeartbeats 4000000 in
set_option maxRecDepth 100000 in
theorem p_clearing (l : Launch) (D : va_G) (cI cB cZ cO : ClassId) (xp : Nat) (xc : Nat) (xs : Nat) (xq : Nat) (xl : Nat) (ag : Nat) (di : Nat) (h : Nat) (a1 : Nat) (a2 : Nat) (a3 : Nat) (a4 : Nat) (a5 : Nat) (tt : Nat) (ln : Nat) (ed : Nat) (es : Nat) (ac : Nat) (cu : Nat) (ow : Nat → Nat) (er : Nat → Nat) (ix : Nat → Nat) (ba : Nat → Nat) (f1 : Nat) (t1 : Nat) (hf1 : f1 ≤ t1) (ht1 : t1 < ln) (hln : ln ≤ 60) (hix : ∀ j, ix j < 160) (hac : ac < 65536) (hm : ix f1 ≤ ix t1) (hed : ed ≤ 16) (hba : ∀ k, ba k < 65536) (how : ∀ k, ow k < 65536) (her : ∀ k, er k < 65536) : Met l yX4_clearing wsX4_clearing ({ frames := 3, cells := 0, slots := 0, locals := 64 }) (va_Pc [.ref xp, .int (iI ((f1 : Nat) : Int)), .int (iI ((t1 + 1 : Nat) : Int))] (RO D cI cB cZ cO [(xp, .inr (4, [.ref xc, .ref xs, .ref h, .ref xq, .ref xl, .int (iI ((ag : Nat) : Int)), .int (iI ((di : Nat) : Int))])), (h, .inr (0, [.ref a1, .ref a2, .ref a3, .int (iI ((tt : Nat) : Int)), .ref a4, .int (iI ((ln : Nat) : Int)), .ref a5, .int (iI ((ed : Nat) : Int)), .int (iI ((es : Nat) : Int)), .int (iI ((ac : Nat) : Int)), .int (iI ((cu : Nat) : Int))])), (a2, .inl (cI, 160, .inl (rN (ow)))), (a3, .inl (cI, 160, .inl (rN (er)))), (a4, .inl (cI, 60, .inl (rN (ix)))), (a5, .inl (cI, 16, .inl (rN (ba))))])) (QO (((edw ow er ac (ix f1) (ix t1 + 1 - ix f1)) ||| (dep ba ed (edw ow er ac (ix f1) (ix t1 + 1 - ix f1)) &&& ac) : Nat) : Int)) 0 0 (fun _ => False) := by
  refine startO (cc := cX4_clearing) (maxL := 3) (ret := (some .int)) (by decide) rfl (Nat.le_of_ble_eq_true rfl) ?_
  intro p e s m below meth c S hr hlocks hE hP ls hl
  have hx := S.1
  have hb := S.2.1
  have hown := S.2.2.2.1
  have hts := S.2.2.2.2
  have hK := hE.1
  have hl : lv_has ls 3 [(0, .ref xp), (1, .int (iI ((f1 : Nat) : Int))), (2, .int (iI ((t1 + 1 : Nat) : Int)))] := hl
  refine lv_aload_n hx hb dX4_clearing_0 rfl (lv_at hl 0 rfl) ?_
  refine va_get (D := D) (ci := 4) (v := .ref h) (C := RX4) (T := TX4) (N := 7) hx hb hts nX4_clearing_X4 hown hK hP 0 rfl rfl 2 (by decide) (hts _ kX4_clearing_28) (fun _ h9 => h9) rfl dX4_clearing_1 ?_
  refine lv_iload_n hx hb dX4_clearing_4 rfl (lv_at hl 1 rfl) ?_
  refine lv_iload_n hx hb dX4_clearing_5 rfl (lv_at hl 2 rfl) ?_
  refine callVO (n := 2) (As := [.int (iI ((f1 : Nat) : Int)), .int (iI ((t1 + 1 : Nat) : Int))]) (rest := []) (wc := [(h, .inr (0, [.ref a1, .ref a2, .ref a3, .int (iI ((tt : Nat) : Int)), .ref a4, .int (iI ((ln : Nat) : Int)), .ref a5, .int (iI ((ed : Nat) : Int)), .int (iI ((es : Nat) : Int)), .int (iI ((ac : Nat) : Int)), .int (iI ((cu : Nat) : Int))]))]) S (c_hasStretch l D cI cB cZ cO h a1 a2 a3 a4 a5 tt ln ed es ac cu (((f1 : Nat) : Int)) (((t1 + 1 : Nat) : Int)) (by first | assumption | (omega)) (by first | assumption | (omega)) (by first | assumption | (omega))) gX4_clearing_X0_hasStretch rfl ⟨rfl, rfl⟩ (by decide +kernel) ⟨Nat.le_of_ble_eq_true rfl, Nat.le_of_ble_eq_true rfl⟩ hE hP [1] rfl 0 0 rfl rfl rfl hl.1 rfl (Nat.le_of_ble_eq_true rfl) dX4_clearing_6 ⟨Nat.le_of_ble_eq_true rfl, Nat.le_of_ble_eq_true rfl⟩ ?_
  refine r_ifb_ne (tgt := 14) hx hb dX4_clearing_9 (by decide) (fun c_1 => ?_) (fun c_1 => ?_)
  · skip
    refine lv_aload_n hx hb dX4_clearing_14 rfl (lv_at hl 0 rfl) ?_
    refine va_get (D := D) (ci := 4) (v := .ref h) (C := RX4) (T := TX4) (N := 7) hx hb hts nX4_clearing_X4 hown hK hP 0 rfl rfl 2 (by decide) (hts _ kX4_clearing_28) (fun _ h9 => h9) rfl dX4_clearing_15 ?_
    refine lv_aload_n hx hb dX4_clearing_18 rfl (lv_at hl 0 rfl) ?_
    refine va_get (D := D) (ci := 4) (v := .ref h) (C := RX4) (T := TX4) (N := 7) hx hb hts nX4_clearing_X4 hown hK hP 0 rfl rfl 2 (by decide) (hts _ kX4_clearing_28) (fun _ h9 => h9) rfl dX4_clearing_19 ?_
    refine lv_iload_n hx hb dX4_clearing_22 rfl (lv_at hl 1 rfl) ?_
    refine lv_iload_n hx hb dX4_clearing_23 rfl (lv_at hl 2 rfl) ?_
    refine callVO (n := 2) (As := [.int (iI ((f1 : Nat) : Int)), .int (iI ((t1 + 1 : Nat) : Int))]) (rest := [.ref h]) (wc := [(h, .inr (0, [.ref a1, .ref a2, .ref a3, .int (iI ((tt : Nat) : Int)), .ref a4, .int (iI ((ln : Nat) : Int)), .ref a5, .int (iI ((ed : Nat) : Int)), .int (iI ((es : Nat) : Int)), .int (iI ((ac : Nat) : Int)), .int (iI ((cu : Nat) : Int))])), (a2, .inl (cI, 160, .inl (rN (ow)))), (a3, .inl (cI, 160, .inl (rN (er)))), (a4, .inl (cI, 60, .inl (rN (ix))))]) S (c_editsWithin l D cI cB cZ cO h a1 a2 a3 a4 a5 tt ln ed es ac cu ow er ix f1 t1 (by first | assumption | (omega)) (by first | assumption | (omega)) (by first | assumption | (omega)) (by first | assumption | (omega)) (by first | assumption | (omega)) (by first | assumption | (omega)) (by first | assumption | (omega)) (by first | assumption | (omega))) gX4_clearing_X0_editsWithin rfl ⟨rfl, rfl⟩ (by decide +kernel) ⟨Nat.le_of_ble_eq_true rfl, Nat.le_of_ble_eq_true rfl⟩ hE hP [1, 2, 3, 4] rfl 0 0 rfl rfl rfl hl.1 rfl (Nat.le_of_ble_eq_true rfl) dX4_clearing_24 ⟨Nat.le_of_ble_eq_true rfl, Nat.le_of_ble_eq_true rfl⟩ ?_
    refine callVO (n := 1) (As := [.int (iI ((edw ow er ac (ix f1) (ix t1 + 1 - ix f1) : Nat) : Int))]) (rest := []) (wc := [(h, .inr (0, [.ref a1, .ref a2, .ref a3, .int (iI ((tt : Nat) : Int)), .ref a4, .int (iI ((ln : Nat) : Int)), .ref a5, .int (iI ((ed : Nat) : Int)), .int (iI ((es : Nat) : Int)), .int (iI ((ac : Nat) : Int)), .int (iI ((cu : Nat) : Int))])), (a5, .inl (cI, 16, .inl (rN (ba))))]) S (c_withActiveDependents l D cI cB cZ cO h a1 a2 a3 a4 a5 tt ln ed es ac cu ba (edw ow er ac (ix f1) (ix t1 + 1 - ix f1)) (by first | assumption | (omega)) (by first | assumption | (omega))) gX4_clearing_X0_withActiveDependents rfl ⟨rfl, rfl⟩ (by decide +kernel) ⟨Nat.le_of_ble_eq_true rfl, Nat.le_of_ble_eq_true rfl⟩ hE hP [1, 5] rfl 0 0 rfl rfl rfl hl.1 rfl (Nat.le_of_ble_eq_true rfl) dX4_clearing_27 ⟨Nat.le_of_ble_eq_true rfl, Nat.le_of_ble_eq_true rfl⟩ ?_
    exact r_iretO hx hb hr hlocks (rfl) dX4_clearing_30
  · skip
    exfalso; omega
