set_option maxHeartbeats 4000000 in
set_option maxRecDepth 100000 in
theorem p_append_bad (l : Launch) (D : va_G) (cI cB cZ cO : ClassId) (xp : Nat) (xc : Nat) (xs : Nat) (xq : Nat) (xl : Nat) (ag : Nat) (di : Nat) (h : Nat) (a1 : Nat) (a2 : Nat) (a3 : Nat) (a4 : Nat) (a5 : Nat) (tt : Nat) (ln : Nat) (ed : Nat) (es : Nat) (ac : Nat) (cu : Nat) (x : Int) (rx : rg x) (hbad : x < 32 ∨ 126 < x) : Met l yX4_appendCharacter wsX4_appendCharacter ({ frames := 0, cells := 0, slots := 0, locals := 0 }) (va_Pc [.ref xp, .int (iI (x))] (RO D cI cB cZ cO [(xp, .inr (4, [.ref xc, .ref xs, .ref h, .ref xq, .ref xl, .int (iI ((ag : Nat) : Int)), .int (iI ((di : Nat) : Int))])), (h, .inr (0, [.ref a1, .ref a2, .ref a3, .int (iI ((tt : Nat) : Int)), .ref a4, .int (iI ((ln : Nat) : Int)), .ref a5, .int (iI ((ed : Nat) : Int)), .int (iI ((es : Nat) : Int)), .int (iI ((ac : Nat) : Int)), .int (iI ((cu : Nat) : Int))]))])) (QO (-1)) 0 0 (fun _ => False) := by
  refine startO (cc := cX4_appendCharacter) (maxL := 2) (ret := (some .int)) (by decide) rfl (Nat.le_of_ble_eq_true rfl) ?_
  intro p e s m below meth c S hr hlocks hE hP ls hl
  have hx := S.1
  have hb := S.2.1
  have hown := S.2.2.2.1
  have hts := S.2.2.2.2
  have hK := hE.1
  have hl : lv_has ls 2 [(0, .ref xp), (1, .int (iI (x)))] := hl
  refine lv_iload_n hx hb dX4_appendCharacter_0 rfl (lv_at hl 1 rfl) ?_
  refine r_bipush hx hb dX4_appendCharacter_1 (by decide) ?_
  refine r_icmp_lt (tgt := 12) hx hb (by omega) (⟨by decide, by decide⟩) dX4_appendCharacter_3 (by decide) (fun c_1 => ?_) (fun c_1 => ?_)
  · skip
    refine r_iconst hx hb dX4_appendCharacter_12 ?_
    exact r_iretO hx hb hr hlocks (rfl) dX4_appendCharacter_13
  · skip
    refine lv_iload_n hx hb dX4_appendCharacter_6 rfl (lv_at hl 1 rfl) ?_
    refine r_bipush hx hb dX4_appendCharacter_7 (by decide) ?_
    refine r_icmp_le (tgt := 14) hx hb (by omega) (⟨by decide, by decide⟩) dX4_appendCharacter_9 (by decide) (fun c_2 => ?_) (fun c_2 => ?_)
    · skip
      exfalso; omega
    · skip
      refine r_iconst hx hb dX4_appendCharacter_12 ?_
      exact r_iretO hx hb hr hlocks (rfl) dX4_appendCharacter_13

theorem kX4_appendCharacter_14 : Cond.fieldLink RX4 14 "PricedUndo" "clip" "LPricedUndo$Row;" ∈ wsX4_appendCharacter := by decide +kernel
theorem nX4_appendCharacter_X4 : ∀ w ∈ u_ws RX4 TX4 7, w ∈ wsX4_appendCharacter := by decide +kernel
set_option maxHeartbeats 4000000 in
set_option maxRecDepth 100000 in
theorem p_append_full (l : Launch) (D : va_G) (cI cB cZ cO : ClassId) (sz : Nat) (xp : Nat) (xc : Nat) (xs : Nat) (xq : Nat) (xl : Nat) (ag : Nat) (di : Nat) (h : Nat) (a1 : Nat) (a2 : Nat) (a3 : Nat) (a4 : Nat) (a5 : Nat) (tt : Nat) (ln : Nat) (ed : Nat) (es : Nat) (ac : Nat) (cu : Nat) (xca : Nat) (cln : Nat) (clc : Nat → Nat) (x1 : Nat) (hx : 32 ≤ x1 ∧ x1 ≤ 126) (hcl : cln = 60) : Met l yX4_appendCharacter wsX4_appendCharacter ({ frames := 1, cells := 0, slots := 0, locals := 21 }) (va_Pc [.ref xp, .int (iI ((x1 : Nat) : Int))] (RW D cI cB cZ cO sz [(xp, .inr (4, [.ref xc, .ref xs, .ref h, .ref xq, .ref xl, .int (iI ((ag : Nat) : Int)), .int (iI ((di : Nat) : Int))])), (h, .inr (0, [.ref a1, .ref a2, .ref a3, .int (iI ((tt : Nat) : Int)), .ref a4, .int (iI ((ln : Nat) : Int)), .ref a5, .int (iI ((ed : Nat) : Int)), .int (iI ((es : Nat) : Int)), .int (iI ((ac : Nat) : Int)), .int (iI ((cu : Nat) : Int))])), (xc, .inr (1, [.ref xca, .int (iI ((cln : Nat) : Int))])), (xca, .inl (cI, 60, .inl (rN (clc))))])) (QX D (S := Unit) (fun u => some (.int (iI (-3)))) (fun u => True) (fun u => [(xp, .inr (4, [.ref xc, .ref xs, .ref h, .ref xq, .ref xl, .int (iI ((ag : Nat) : Int)), .int (iI ((di : Nat) : Int))])), (h, .inr (0, [.ref a1, .ref a2, .ref a3, .int (iI ((tt : Nat) : Int)), .ref a4, .int (iI ((ln : Nat) : Int)), .ref a5, .int (iI ((ed : Nat) : Int)), .int (iI ((es : Nat) : Int)), .int (iI ((ac : Nat) : Int)), .int (iI ((cu : Nat) : Int))])), (xc, .inr (1, [.ref xca, .int (iI ((cln : Nat) : Int))])), (xca, .inl (cI, 60, .inl (rN (clc))))]) (va_A [(xp, .inr (4, [.ref xc, .ref xs, .ref h, .ref xq, .ref xl, .int (iI ((ag : Nat) : Int)), .int (iI ((di : Nat) : Int))])), (h, .inr (0, [.ref a1, .ref a2, .ref a3, .int (iI ((tt : Nat) : Int)), .ref a4, .int (iI ((ln : Nat) : Int)), .ref a5, .int (iI ((ed : Nat) : Int)), .int (iI ((es : Nat) : Int)), .int (iI ((ac : Nat) : Int)), .int (iI ((cu : Nat) : Int))])), (xc, .inr (1, [.ref xca, .int (iI ((cln : Nat) : Int))])), (xca, .inl (cI, 60, .inl (rN (clc))))] sz)) 0 0 (va_A [(xp, .inr (4, [.ref xc, .ref xs, .ref h, .ref xq, .ref xl, .int (iI ((ag : Nat) : Int)), .int (iI ((di : Nat) : Int))])), (h, .inr (0, [.ref a1, .ref a2, .ref a3, .int (iI ((tt : Nat) : Int)), .ref a4, .int (iI ((ln : Nat) : Int)), .ref a5, .int (iI ((ed : Nat) : Int)), .int (iI ((es : Nat) : Int)), .int (iI ((ac : Nat) : Int)), .int (iI ((cu : Nat) : Int))])), (xc, .inr (1, [.ref xca, .int (iI ((cln : Nat) : Int))])), (xca, .inl (cI, 60, .inl (rN (clc))))] sz) := by
  refine startW (cc := cX4_appendCharacter) (maxL := 2) (ret := (some .int)) (by decide) rfl (Nat.le_of_ble_eq_true rfl) ?_
  intro p e s m below meth c S hr hlocks hE hP A hD hA hS ls hl
  have hx := S.1
  have hb := S.2.1
  have hown := S.2.2.2.1
  have hts := S.2.2.2.2
  have hK := hE.1
  have hl : lv_has ls 2 [(0, .ref xp), (1, .int (iI ((x1 : Nat) : Int)))] := hl
  refine lv_iload_n hx hb dX4_appendCharacter_0 rfl (lv_at hl 1 rfl) ?_
  refine r_bipush hx hb dX4_appendCharacter_1 (by decide) ?_
  refine r_icmp_lt (tgt := 12) hx hb (by omega) (⟨by decide, by decide⟩) dX4_appendCharacter_3 (by decide) (fun c_1 => ?_) (fun c_1 => ?_)
  · skip
    exfalso; omega
  · skip
    refine lv_iload_n hx hb dX4_appendCharacter_6 rfl (lv_at hl 1 rfl) ?_
    refine r_bipush hx hb dX4_appendCharacter_7 (by decide) ?_
    refine r_icmp_le (tgt := 14) hx hb (by omega) (⟨by decide, by decide⟩) dX4_appendCharacter_9 (by decide) (fun c_2 => ?_) (fun c_2 => ?_)
    · skip
      refine lv_aload_n hx hb dX4_appendCharacter_14 rfl (lv_at hl 0 rfl) ?_
      refine va_get (D := D) (ci := 4) (v := .ref xc) (C := RX4) (T := TX4) (N := 7) hx hb hts nX4_appendCharacter_X4 hown hK hP 0 rfl rfl 0 (by decide) (hts _ kX4_appendCharacter_14) (fun _ h9 => h9) rfl dX4_appendCharacter_15 ?_
      refine lv_iload_n hx hb dX4_appendCharacter_18 rfl (lv_at hl 1 rfl) ?_
      refine callVX (n := 1) (As := [.int (iI ((x1 : Nat) : Int))]) (rest := []) (wc := [(xc, .inr (1, [.ref xca, .int (iI ((cln : Nat) : Int))])), (xca, .inl (cI, 60, .inl (rN (clc))))]) (wr := [(xp, .inr (4, [.ref xc, .ref xs, .ref h, .ref xq, .ref xl, .int (iI ((ag : Nat) : Int)), .int (iI ((di : Nat) : Int))])), (h, .inr (0, [.ref a1, .ref a2, .ref a3, .int (iI ((tt : Nat) : Int)), .ref a4, .int (iI ((ln : Nat) : Int)), .ref a5, .int (iI ((ed : Nat) : Int)), .int (iI ((es : Nat) : Int)), .int (iI ((ac : Nat) : Int)), .int (iI ((cu : Nat) : Int))]))]) (ws2 := fun u => [(xp, .inr (4, [.ref xc, .ref xs, .ref h, .ref xq, .ref xl, .int (iI ((ag : Nat) : Int)), .int (iI ((di : Nat) : Int))])), (h, .inr (0, [.ref a1, .ref a2, .ref a3, .int (iI ((tt : Nat) : Int)), .ref a4, .int (iI ((ln : Nat) : Int)), .ref a5, .int (iI ((ed : Nat) : Int)), .int (iI ((es : Nat) : Int)), .int (iI ((ac : Nat) : Int)), .int (iI ((cu : Nat) : Int))])), (xc, .inr (1, [.ref xca, .int (iI ((cln : Nat) : Int))])), (xca, .inl (cI, 60, .inl (rN (clc))))]) S hE hP hD hS hA (c_row_full l D cI cB cZ cO s.heap.size xc xca 60 clc cln x1 (by first | assumption | (omega)) (by first | assumption | (omega))) gX4_appendCharacter_X1_add rfl ⟨rfl, rfl⟩ (by decide +kernel) ⟨Nat.le_of_ble_eq_true rfl, Nat.le_of_ble_eq_true rfl⟩ [2, 3] [0, 1] [0, 1, 2, 3] rfl (by decide) rfl (by decide) (by decide) (by decide) (fun u => rfl) 1 0 rfl rfl rfl hl.1 rfl (Nat.le_of_ble_eq_true rfl) dX4_appendCharacter_19 ⟨Nat.le_of_ble_eq_true rfl, Nat.le_of_ble_eq_true rfl⟩ (fun u u19p H locs hP hD hS => ?_)
      have hP : va_P D vwCl [(xp, .inr (4, [.ref xc, .ref xs, .ref h, .ref xq, .ref xl, .int (iI ((ag : Nat) : Int)), .int (iI ((di : Nat) : Int))])), (h, .inr (0, [.ref a1, .ref a2, .ref a3, .int (iI ((tt : Nat) : Int)), .ref a4, .int (iI ((ln : Nat) : Int)), .ref a5, .int (iI ((ed : Nat) : Int)), .int (iI ((es : Nat) : Int)), .int (iI ((ac : Nat) : Int)), .int (iI ((cu : Nat) : Int))])), (xc, .inr (1, [.ref xca, .int (iI ((cln : Nat) : Int))])), (xca, .inl (cI, 60, .inl (rN (clc))))] H := hP
      have hD : va_D A [(xp, .inr (4, [.ref xc, .ref xs, .ref h, .ref xq, .ref xl, .int (iI ((ag : Nat) : Int)), .int (iI ((di : Nat) : Int))])), (h, .inr (0, [.ref a1, .ref a2, .ref a3, .int (iI ((tt : Nat) : Int)), .ref a4, .int (iI ((ln : Nat) : Int)), .ref a5, .int (iI ((ed : Nat) : Int)), .int (iI ((es : Nat) : Int)), .int (iI ((ac : Nat) : Int)), .int (iI ((cu : Nat) : Int))])), (xc, .inr (1, [.ref xca, .int (iI ((cln : Nat) : Int))])), (xca, .inl (cI, 60, .inl (rN (clc))))] := hD
      refine W.eq (g2 := F0 m 22 ls [.int (iI (bI (False)))]) rfl ?_
      refine r_ifb_eq (tgt := 35) hx hb dX4_appendCharacter_22 (by decide) (fun c_3 => ?_) (fun c_3 => ?_)
      · skip
        refine r_bipush hx hb dX4_appendCharacter_35 (by decide) ?_
        exact r_iretX hx hb hr hlocks hP hD hS () (rfl) (trivial) rfl dX4_appendCharacter_37
      · skip
        exfalso; assumption
    · skip
      exfalso; omega

theorem nX4_appendCharacter_X1 : ∀ w ∈ u_ws RX1 TX1 2, w ∈ wsX4_appendCharacter := by decide +kernel
set_option maxHeartbeats 4000000 in
set_option maxRecDepth 100000 in
theorem p_append (l : Launch) (D : va_G) (cI cB cZ cO : ClassId) (sz : Nat) (xp : Nat) (xc : Nat) (xs : Nat) (xq : Nat) (xl : Nat) (ag : Nat) (di : Nat) (h : Nat) (a1 : Nat) (a2 : Nat) (a3 : Nat) (a4 : Nat) (a5 : Nat) (tt : Nat) (ln : Nat) (ed : Nat) (es : Nat) (ac : Nat) (cu : Nat) (xca : Nat) (cln : Nat) (clc : Nat → Nat) (x1 : Nat) (hx : 32 ≤ x1 ∧ x1 ≤ 126) (hcl : cln < 60) : Met l yX4_appendCharacter wsX4_appendCharacter ({ frames := 1, cells := 0, slots := 0, locals := 21 }) (va_Pc [.ref xp, .int (iI ((x1 : Nat) : Int))] (RW D cI cB cZ cO sz [(xp, .inr (4, [.ref xc, .ref xs, .ref h, .ref xq, .ref xl, .int (iI ((ag : Nat) : Int)), .int (iI ((di : Nat) : Int))])), (h, .inr (0, [.ref a1, .ref a2, .ref a3, .int (iI ((tt : Nat) : Int)), .ref a4, .int (iI ((ln : Nat) : Int)), .ref a5, .int (iI ((ed : Nat) : Int)), .int (iI ((es : Nat) : Int)), .int (iI ((ac : Nat) : Int)), .int (iI ((cu : Nat) : Int))])), (xc, .inr (1, [.ref xca, .int (iI ((cln : Nat) : Int))])), (xca, .inl (cI, 60, .inl (rN (clc))))])) (QX D (S := Unit) (fun u => some (.int (iI ((cln + 1 : Nat) : Int)))) (fun u => True) (fun u => [(xp, .inr (4, [.ref xc, .ref xs, .ref h, .ref xq, .ref xl, .int (iI ((ag : Nat) : Int)), .int (iI ((di : Nat) : Int))])), (h, .inr (0, [.ref a1, .ref a2, .ref a3, .int (iI ((tt : Nat) : Int)), .ref a4, .int (iI ((ln : Nat) : Int)), .ref a5, .int (iI ((ed : Nat) : Int)), .int (iI ((es : Nat) : Int)), .int (iI ((ac : Nat) : Int)), .int (iI ((cu : Nat) : Int))])), (xc, .inr (1, [.ref xca, .int (iI ((cln + 1 : Nat) : Int))])), (xca, .inl (cI, 60, .inl (rN (up clc cln (x1)))))]) (va_A [(xp, .inr (4, [.ref xc, .ref xs, .ref h, .ref xq, .ref xl, .int (iI ((ag : Nat) : Int)), .int (iI ((di : Nat) : Int))])), (h, .inr (0, [.ref a1, .ref a2, .ref a3, .int (iI ((tt : Nat) : Int)), .ref a4, .int (iI ((ln : Nat) : Int)), .ref a5, .int (iI ((ed : Nat) : Int)), .int (iI ((es : Nat) : Int)), .int (iI ((ac : Nat) : Int)), .int (iI ((cu : Nat) : Int))])), (xc, .inr (1, [.ref xca, .int (iI ((cln : Nat) : Int))])), (xca, .inl (cI, 60, .inl (rN (clc))))] sz)) 0 0 (va_A [(xp, .inr (4, [.ref xc, .ref xs, .ref h, .ref xq, .ref xl, .int (iI ((ag : Nat) : Int)), .int (iI ((di : Nat) : Int))])), (h, .inr (0, [.ref a1, .ref a2, .ref a3, .int (iI ((tt : Nat) : Int)), .ref a4, .int (iI ((ln : Nat) : Int)), .ref a5, .int (iI ((ed : Nat) : Int)), .int (iI ((es : Nat) : Int)), .int (iI ((ac : Nat) : Int)), .int (iI ((cu : Nat) : Int))])), (xc, .inr (1, [.ref xca, .int (iI ((cln : Nat) : Int))])), (xca, .inl (cI, 60, .inl (rN (clc))))] sz) := by
  refine startW (cc := cX4_appendCharacter) (maxL := 2) (ret := (some .int)) (by decide) rfl (Nat.le_of_ble_eq_true rfl) ?_
  intro p e s m below meth c S hr hlocks hE hP A hD hA hS ls hl
  have hx := S.1
  have hb := S.2.1
  have hown := S.2.2.2.1
  have hts := S.2.2.2.2
  have hK := hE.1
  have hl : lv_has ls 2 [(0, .ref xp), (1, .int (iI ((x1 : Nat) : Int)))] := hl
  refine lv_iload_n hx hb dX4_appendCharacter_0 rfl (lv_at hl 1 rfl) ?_
  refine r_bipush hx hb dX4_appendCharacter_1 (by decide) ?_
  refine r_icmp_lt (tgt := 12) hx hb (by omega) (⟨by decide, by decide⟩) dX4_appendCharacter_3 (by decide) (fun c_1 => ?_) (fun c_1 => ?_)
  · skip
    exfalso; omega
  · skip
    refine lv_iload_n hx hb dX4_appendCharacter_6 rfl (lv_at hl 1 rfl) ?_
    refine r_bipush hx hb dX4_appendCharacter_7 (by decide) ?_
    refine r_icmp_le (tgt := 14) hx hb (by omega) (⟨by decide, by decide⟩) dX4_appendCharacter_9 (by decide) (fun c_2 => ?_) (fun c_2 => ?_)
    · skip
      refine lv_aload_n hx hb dX4_appendCharacter_14 rfl (lv_at hl 0 rfl) ?_
      refine va_get (D := D) (ci := 4) (v := .ref xc) (C := RX4) (T := TX4) (N := 7) hx hb hts nX4_appendCharacter_X4 hown hK hP 0 rfl rfl 0 (by decide) (hts _ kX4_appendCharacter_14) (fun _ h9 => h9) rfl dX4_appendCharacter_15 ?_
      refine lv_iload_n hx hb dX4_appendCharacter_18 rfl (lv_at hl 1 rfl) ?_
      refine callVX (n := 1) (As := [.int (iI ((x1 : Nat) : Int))]) (rest := []) (wc := [(xc, .inr (1, [.ref xca, .int (iI ((cln : Nat) : Int))])), (xca, .inl (cI, 60, .inl (rN (clc))))]) (wr := [(xp, .inr (4, [.ref xc, .ref xs, .ref h, .ref xq, .ref xl, .int (iI ((ag : Nat) : Int)), .int (iI ((di : Nat) : Int))])), (h, .inr (0, [.ref a1, .ref a2, .ref a3, .int (iI ((tt : Nat) : Int)), .ref a4, .int (iI ((ln : Nat) : Int)), .ref a5, .int (iI ((ed : Nat) : Int)), .int (iI ((es : Nat) : Int)), .int (iI ((ac : Nat) : Int)), .int (iI ((cu : Nat) : Int))]))]) (ws2 := fun u => [(xp, .inr (4, [.ref xc, .ref xs, .ref h, .ref xq, .ref xl, .int (iI ((ag : Nat) : Int)), .int (iI ((di : Nat) : Int))])), (h, .inr (0, [.ref a1, .ref a2, .ref a3, .int (iI ((tt : Nat) : Int)), .ref a4, .int (iI ((ln : Nat) : Int)), .ref a5, .int (iI ((ed : Nat) : Int)), .int (iI ((es : Nat) : Int)), .int (iI ((ac : Nat) : Int)), .int (iI ((cu : Nat) : Int))])), (xc, .inr (1, [.ref xca, .int (iI ((cln + 1 : Nat) : Int))])), (xca, .inl (cI, 60, .inl (rN (up clc cln (x1)))))]) S hE hP hD hS hA (c_row_add l D cI cB cZ cO s.heap.size xc xca 60 clc cln x1 (by first | assumption | (omega)) (by first | assumption | (omega))) gX4_appendCharacter_X1_add rfl ⟨rfl, rfl⟩ (by decide +kernel) ⟨Nat.le_of_ble_eq_true rfl, Nat.le_of_ble_eq_true rfl⟩ [2, 3] [0, 1] [0, 1, 2, 3] rfl (by decide) rfl (by decide) (by decide) (by decide) (fun u => rfl) 1 0 rfl rfl rfl hl.1 rfl (Nat.le_of_ble_eq_true rfl) dX4_appendCharacter_19 ⟨Nat.le_of_ble_eq_true rfl, Nat.le_of_ble_eq_true rfl⟩ (fun u u19p H locs hP hD hS => ?_)
      have hP : va_P D vwCl [(xp, .inr (4, [.ref xc, .ref xs, .ref h, .ref xq, .ref xl, .int (iI ((ag : Nat) : Int)), .int (iI ((di : Nat) : Int))])), (h, .inr (0, [.ref a1, .ref a2, .ref a3, .int (iI ((tt : Nat) : Int)), .ref a4, .int (iI ((ln : Nat) : Int)), .ref a5, .int (iI ((ed : Nat) : Int)), .int (iI ((es : Nat) : Int)), .int (iI ((ac : Nat) : Int)), .int (iI ((cu : Nat) : Int))])), (xc, .inr (1, [.ref xca, .int (iI ((cln + 1 : Nat) : Int))])), (xca, .inl (cI, 60, .inl (rN (up clc cln (x1)))))] H := hP
      have hD : va_D A [(xp, .inr (4, [.ref xc, .ref xs, .ref h, .ref xq, .ref xl, .int (iI ((ag : Nat) : Int)), .int (iI ((di : Nat) : Int))])), (h, .inr (0, [.ref a1, .ref a2, .ref a3, .int (iI ((tt : Nat) : Int)), .ref a4, .int (iI ((ln : Nat) : Int)), .ref a5, .int (iI ((ed : Nat) : Int)), .int (iI ((es : Nat) : Int)), .int (iI ((ac : Nat) : Int)), .int (iI ((cu : Nat) : Int))])), (xc, .inr (1, [.ref xca, .int (iI ((cln + 1 : Nat) : Int))])), (xca, .inl (cI, 60, .inl (rN (up clc cln (x1)))))] := hD
      refine W.eq (g2 := F0 m 22 ls [.int (iI (bI (True)))]) rfl ?_
      refine r_ifb_eq (tgt := 35) hx hb dX4_appendCharacter_22 (by decide) (fun c_3 => ?_) (fun c_3 => ?_)
      · skip
        exfalso; exact absurd trivial (by assumption)
      · skip
        refine lv_aload_n hx hb dX4_appendCharacter_25 rfl (lv_at hl 0 rfl) ?_
        refine va_get (D := D) (ci := 4) (v := .ref xc) (C := RX4) (T := TX4) (N := 7) hx hb hts nX4_appendCharacter_X4 hown hK hP 0 rfl rfl 0 (by decide) (hts _ kX4_appendCharacter_14) (fun _ h9 => h9) rfl dX4_appendCharacter_26 ?_
        refine va_getN (D := D) (ci := 1) (v := .int (iI ((cln + 1 : Nat) : Int))) (C := RX1) (T := TX1) (N := 2) hx hb hts nX4_appendCharacter_X1 hown hK hP 2 rfl rfl 1 (by decide) (va_Nw.use rfl (hE.2.f 1 rfl)) (fun _ h9 => h9) rfl dX4_appendCharacter_29 ?_
        refine lv_goto (tgt := 37) hx hb dX4_appendCharacter_32 (by decide) ?_
        exact r_iretX hx hb hr hlocks hP hD hS () (rfl) (trivial) rfl dX4_appendCharacter_37
    · skip
      exfalso; omega

theorem kX4_clearClip_14 : Cond.fieldLink RX4 14 "PricedUndo" "clip" "LPricedUndo$Row;" ∈ wsX4_clearClip := by decide +kernel
theorem nX4_clearClip_X4 : ∀ w ∈ u_ws RX4 TX4 7, w ∈ wsX4_clearClip := by decide +kernel
set_option maxHeartbeats 4000000 in
set_option maxRecDepth 100000 in
theorem p_clearClip (l : Launch) (D : va_G) (cI cB cZ cO : ClassId) (sz : Nat) (xp : Nat) (xc : Nat) (xs : Nat) (xq : Nat) (xl : Nat) (ag : Nat) (di : Nat) (h : Nat) (a1 : Nat) (a2 : Nat) (a3 : Nat) (a4 : Nat) (a5 : Nat) (tt : Nat) (ln : Nat) (ed : Nat) (es : Nat) (ac : Nat) (cu : Nat) (xca : Nat) (cln : Nat) (clc : Nat → Nat) (hcl : cln ≤ 60) : Met l yX4_clearClip wsX4_clearClip ({ frames := 1, cells := 0, slots := 0, locals := 21 }) (va_Pc [.ref xp] (RW D cI cB cZ cO sz [(xp, .inr (4, [.ref xc, .ref xs, .ref h, .ref xq, .ref xl, .int (iI ((ag : Nat) : Int)), .int (iI ((di : Nat) : Int))])), (h, .inr (0, [.ref a1, .ref a2, .ref a3, .int (iI ((tt : Nat) : Int)), .ref a4, .int (iI ((ln : Nat) : Int)), .ref a5, .int (iI ((ed : Nat) : Int)), .int (iI ((es : Nat) : Int)), .int (iI ((ac : Nat) : Int)), .int (iI ((cu : Nat) : Int))])), (xc, .inr (1, [.ref xca, .int (iI ((cln : Nat) : Int))])), (xca, .inl (cI, 60, .inl (rN (clc))))])) (QX D (S := Unit) (fun u => some (.int (iI ((cln : Nat) : Int)))) (fun u => True) (fun u => [(xp, .inr (4, [.ref xc, .ref xs, .ref h, .ref xq, .ref xl, .int (iI ((ag : Nat) : Int)), .int (iI ((di : Nat) : Int))])), (h, .inr (0, [.ref a1, .ref a2, .ref a3, .int (iI ((tt : Nat) : Int)), .ref a4, .int (iI ((ln : Nat) : Int)), .ref a5, .int (iI ((ed : Nat) : Int)), .int (iI ((es : Nat) : Int)), .int (iI ((ac : Nat) : Int)), .int (iI ((cu : Nat) : Int))])), (xc, .inr (1, [.ref xca, .int (iI 0)])), (xca, .inl (cI, 60, .inl (rN (clc))))]) (va_A [(xp, .inr (4, [.ref xc, .ref xs, .ref h, .ref xq, .ref xl, .int (iI ((ag : Nat) : Int)), .int (iI ((di : Nat) : Int))])), (h, .inr (0, [.ref a1, .ref a2, .ref a3, .int (iI ((tt : Nat) : Int)), .ref a4, .int (iI ((ln : Nat) : Int)), .ref a5, .int (iI ((ed : Nat) : Int)), .int (iI ((es : Nat) : Int)), .int (iI ((ac : Nat) : Int)), .int (iI ((cu : Nat) : Int))])), (xc, .inr (1, [.ref xca, .int (iI ((cln : Nat) : Int))])), (xca, .inl (cI, 60, .inl (rN (clc))))] sz)) 0 0 (va_A [(xp, .inr (4, [.ref xc, .ref xs, .ref h, .ref xq, .ref xl, .int (iI ((ag : Nat) : Int)), .int (iI ((di : Nat) : Int))])), (h, .inr (0, [.ref a1, .ref a2, .ref a3, .int (iI ((tt : Nat) : Int)), .ref a4, .int (iI ((ln : Nat) : Int)), .ref a5, .int (iI ((ed : Nat) : Int)), .int (iI ((es : Nat) : Int)), .int (iI ((ac : Nat) : Int)), .int (iI ((cu : Nat) : Int))])), (xc, .inr (1, [.ref xca, .int (iI ((cln : Nat) : Int))])), (xca, .inl (cI, 60, .inl (rN (clc))))] sz) := by
  refine startW (cc := cX4_clearClip) (maxL := 1) (ret := (some .int)) (by decide) rfl (Nat.le_of_ble_eq_true rfl) ?_
  intro p e s m below meth c S hr hlocks hE hP A hD hA hS ls hl
  have hx := S.1
  have hb := S.2.1
  have hown := S.2.2.2.1
  have hts := S.2.2.2.2
  have hK := hE.1
  have hl : lv_has ls 1 [(0, .ref xp)] := hl
  refine lv_aload_n hx hb dX4_clearClip_0 rfl (lv_at hl 0 rfl) ?_
  refine va_get (D := D) (ci := 4) (v := .ref xc) (C := RX4) (T := TX4) (N := 7) hx hb hts nX4_clearClip_X4 hown hK hP 0 rfl rfl 0 (by decide) (hts _ kX4_clearClip_14) (fun _ h9 => h9) rfl dX4_clearClip_1 ?_
  refine callVX (n := 0) (As := []) (rest := []) (wc := [(xc, .inr (1, [.ref xca, .int (iI ((cln : Nat) : Int))])), (xca, .inl (cI, 60, .inl (rN (clc))))]) (wr := [(xp, .inr (4, [.ref xc, .ref xs, .ref h, .ref xq, .ref xl, .int (iI ((ag : Nat) : Int)), .int (iI ((di : Nat) : Int))])), (h, .inr (0, [.ref a1, .ref a2, .ref a3, .int (iI ((tt : Nat) : Int)), .ref a4, .int (iI ((ln : Nat) : Int)), .ref a5, .int (iI ((ed : Nat) : Int)), .int (iI ((es : Nat) : Int)), .int (iI ((ac : Nat) : Int)), .int (iI ((cu : Nat) : Int))]))]) (ws2 := fun u => [(xp, .inr (4, [.ref xc, .ref xs, .ref h, .ref xq, .ref xl, .int (iI ((ag : Nat) : Int)), .int (iI ((di : Nat) : Int))])), (h, .inr (0, [.ref a1, .ref a2, .ref a3, .int (iI ((tt : Nat) : Int)), .ref a4, .int (iI ((ln : Nat) : Int)), .ref a5, .int (iI ((ed : Nat) : Int)), .int (iI ((es : Nat) : Int)), .int (iI ((ac : Nat) : Int)), .int (iI ((cu : Nat) : Int))])), (xc, .inr (1, [.ref xca, .int (iI 0)])), (xca, .inl (cI, 60, .inl (rN (clc))))]) S hE hP hD hS hA (c_row_drop l D cI cB cZ cO s.heap.size xc xca 60 clc cln (by first | assumption | (omega))) gX4_clearClip_X1_drop rfl ⟨rfl, rfl⟩ (by decide +kernel) ⟨Nat.le_of_ble_eq_true rfl, Nat.le_of_ble_eq_true rfl⟩ [2, 3] [0, 1] [0, 1, 2, 3] rfl (by decide) rfl (by decide) (by decide) (by decide) (fun u => rfl) 1 0 rfl rfl rfl hl.1 rfl (Nat.le_of_ble_eq_true rfl) dX4_clearClip_4 ⟨Nat.le_of_ble_eq_true rfl, Nat.le_of_ble_eq_true rfl⟩ (fun u u4p H locs hP hD hS => ?_)
  have hP : va_P D vwCl [(xp, .inr (4, [.ref xc, .ref xs, .ref h, .ref xq, .ref xl, .int (iI ((ag : Nat) : Int)), .int (iI ((di : Nat) : Int))])), (h, .inr (0, [.ref a1, .ref a2, .ref a3, .int (iI ((tt : Nat) : Int)), .ref a4, .int (iI ((ln : Nat) : Int)), .ref a5, .int (iI ((ed : Nat) : Int)), .int (iI ((es : Nat) : Int)), .int (iI ((ac : Nat) : Int)), .int (iI ((cu : Nat) : Int))])), (xc, .inr (1, [.ref xca, .int (iI 0)])), (xca, .inl (cI, 60, .inl (rN (clc))))] H := hP
  have hD : va_D A [(xp, .inr (4, [.ref xc, .ref xs, .ref h, .ref xq, .ref xl, .int (iI ((ag : Nat) : Int)), .int (iI ((di : Nat) : Int))])), (h, .inr (0, [.ref a1, .ref a2, .ref a3, .int (iI ((tt : Nat) : Int)), .ref a4, .int (iI ((ln : Nat) : Int)), .ref a5, .int (iI ((ed : Nat) : Int)), .int (iI ((es : Nat) : Int)), .int (iI ((ac : Nat) : Int)), .int (iI ((cu : Nat) : Int))])), (xc, .inr (1, [.ref xca, .int (iI 0)])), (xca, .inl (cI, 60, .inl (rN (clc))))] := hD
  refine W.eq (g2 := F0 m 7 ls [.int (iI ((cln : Nat) : Int))]) rfl ?_
  exact r_iretX hx hb hr hlocks hP hD hS () (rfl) (trivial) rfl dX4_clearClip_7

theorem kX4_begin_28 : Cond.fieldLink RX4 28 "PricedUndo" "buffer" "LPricedUndo$Buffer;" ∈ wsX4_begin := by decide +kernel
theorem nX4_begin_X4 : ∀ w ∈ u_ws RX4 TX4 7, w ∈ wsX4_begin := by decide +kernel
theorem kX4_begin_14 : Cond.fieldLink RX4 14 "PricedUndo" "clip" "LPricedUndo$Row;" ∈ wsX4_begin := by decide +kernel
theorem nX4_begin_X0 : ∀ w ∈ u_ws RX0 TX0 11, w ∈ wsX4_begin := by decide +kernel
set_option maxHeartbeats 4000000 in
set_option maxRecDepth 100000 in
theorem p_begin (l : Launch) (D : va_G) (cI cB cZ cO : ClassId) (sz : Nat) (xp : Nat) (xc : Nat) (xs : Nat) (xq : Nat) (xl : Nat) (ag : Nat) (di : Nat) (h : Nat) (a1 : Nat) (a2 : Nat) (a3 : Nat) (a4 : Nat) (a5 : Nat) (tt : Nat) (ln : Nat) (ed : Nat) (es : Nat) (ac : Nat) (cu : Nat) (co : Nat → Nat) (ow : Nat → Nat) (er : Nat → Nat) (ix : Nat → Nat) (xca : Nat) (cln : Nat) (clc : Nat → Nat) (hix : ∀ j, ix j < 160) (hcl : cln ≤ 60) (how : ∀ k, ow k < 65536) (her : ∀ k, er k < 65536) : Met l yX4_begin wsX4_begin ({ frames := 3, cells := 0, slots := 0, locals := 65 }) (va_Pc [.ref xp] (RW D cI cB cZ cO sz [(xp, .inr (4, [.ref xc, .ref xs, .ref h, .ref xq, .ref xl, .int (iI ((ag : Nat) : Int)), .int (iI ((di : Nat) : Int))])), (h, .inr (0, [.ref a1, .ref a2, .ref a3, .int (iI ((tt : Nat) : Int)), .ref a4, .int (iI ((ln : Nat) : Int)), .ref a5, .int (iI ((ed : Nat) : Int)), .int (iI ((es : Nat) : Int)), .int (iI ((ac : Nat) : Int)), .int (iI ((cu : Nat) : Int))])), (a1, .inl (cI, 160, .inl (rN (co)))), (a2, .inl (cI, 160, .inl (rN (ow)))), (a3, .inl (cI, 160, .inl (rN (er)))), (a4, .inl (cI, 60, .inl (rN (ix)))), (xc, .inr (1, [.ref xca, .int (iI ((cln : Nat) : Int))])), (xca, .inl (cI, 60, .inl (rN (clc))))])) (QX D (S := (Nat → Nat)) (fun u => some (.int (iI ((cln : Nat) : Int)))) (fun u => (∀ j, u j < 160) ∧ (ixOK (visb (preF ow (fun _ => 0) cln) (preF er (fun _ => 0) cln) 0) cln u)) (fun u => [(xp, .inr (4, [.ref xc, .ref xs, .ref h, .ref xq, .ref xl, .int (iI ((ag : Nat) : Int)), .int (iI ((di : Nat) : Int))])), (h, .inr (0, [.ref a1, .ref a2, .ref a3, .int (iI ((cln : Nat) : Int)), .ref a4, .int (iI ((cln : Nat) : Int)), .ref a5, .int (iI 0), .int (iI 0), .int (iI 0), .int (iI 0)])), (a1, .inl (cI, 160, .inl (rN (preF co clc cln)))), (a2, .inl (cI, 160, .inl (rN (preF ow (fun _ => 0) cln)))), (a3, .inl (cI, 160, .inl (rN (preF er (fun _ => 0) cln)))), (a4, .inl (cI, 60, .inl (rN (u)))), (xc, .inr (1, [.ref xca, .int (iI 0)])), (xca, .inl (cI, 60, .inl (rN (clc))))]) (va_A [(xp, .inr (4, [.ref xc, .ref xs, .ref h, .ref xq, .ref xl, .int (iI ((ag : Nat) : Int)), .int (iI ((di : Nat) : Int))])), (h, .inr (0, [.ref a1, .ref a2, .ref a3, .int (iI ((tt : Nat) : Int)), .ref a4, .int (iI ((ln : Nat) : Int)), .ref a5, .int (iI ((ed : Nat) : Int)), .int (iI ((es : Nat) : Int)), .int (iI ((ac : Nat) : Int)), .int (iI ((cu : Nat) : Int))])), (a1, .inl (cI, 160, .inl (rN (co)))), (a2, .inl (cI, 160, .inl (rN (ow)))), (a3, .inl (cI, 160, .inl (rN (er)))), (a4, .inl (cI, 60, .inl (rN (ix)))), (xc, .inr (1, [.ref xca, .int (iI ((cln : Nat) : Int))])), (xca, .inl (cI, 60, .inl (rN (clc))))] sz)) 0 0 (va_A [(xp, .inr (4, [.ref xc, .ref xs, .ref h, .ref xq, .ref xl, .int (iI ((ag : Nat) : Int)), .int (iI ((di : Nat) : Int))])), (h, .inr (0, [.ref a1, .ref a2, .ref a3, .int (iI ((tt : Nat) : Int)), .ref a4, .int (iI ((ln : Nat) : Int)), .ref a5, .int (iI ((ed : Nat) : Int)), .int (iI ((es : Nat) : Int)), .int (iI ((ac : Nat) : Int)), .int (iI ((cu : Nat) : Int))])), (a1, .inl (cI, 160, .inl (rN (co)))), (a2, .inl (cI, 160, .inl (rN (ow)))), (a3, .inl (cI, 160, .inl (rN (er)))), (a4, .inl (cI, 60, .inl (rN (ix)))), (xc, .inr (1, [.ref xca, .int (iI ((cln : Nat) : Int))])), (xca, .inl (cI, 60, .inl (rN (clc))))] sz) := by
  refine startW (cc := cX4_begin) (maxL := 1) (ret := (some .int)) (by decide) rfl (Nat.le_of_ble_eq_true rfl) ?_
  intro p e s m below meth c S hr hlocks hE hP A hD hA hS ls hl
  have hx := S.1
  have hb := S.2.1
  have hown := S.2.2.2.1
  have hts := S.2.2.2.2
  have hK := hE.1
  have hl : lv_has ls 1 [(0, .ref xp)] := hl
  refine lv_aload_n hx hb dX4_begin_0 rfl (lv_at hl 0 rfl) ?_
  refine va_get (D := D) (ci := 4) (v := .ref h) (C := RX4) (T := TX4) (N := 7) hx hb hts nX4_begin_X4 hown hK hP 0 rfl rfl 2 (by decide) (hts _ kX4_begin_28) (fun _ h9 => h9) rfl dX4_begin_1 ?_
  refine lv_aload_n hx hb dX4_begin_4 rfl (lv_at hl 0 rfl) ?_
  refine va_get (D := D) (ci := 4) (v := .ref xc) (C := RX4) (T := TX4) (N := 7) hx hb hts nX4_begin_X4 hown hK hP 0 rfl rfl 0 (by decide) (hts _ kX4_begin_14) (fun _ h9 => h9) rfl dX4_begin_5 ?_
  refine callVX (n := 1) (As := [.ref xc]) (rest := []) (wc := [(h, .inr (0, [.ref a1, .ref a2, .ref a3, .int (iI ((tt : Nat) : Int)), .ref a4, .int (iI ((ln : Nat) : Int)), .ref a5, .int (iI ((ed : Nat) : Int)), .int (iI ((es : Nat) : Int)), .int (iI ((ac : Nat) : Int)), .int (iI ((cu : Nat) : Int))])), (a1, .inl (cI, 160, .inl (rN (co)))), (a2, .inl (cI, 160, .inl (rN (ow)))), (a3, .inl (cI, 160, .inl (rN (er)))), (a4, .inl (cI, 60, .inl (rN (ix)))), (xc, .inr (1, [.ref xca, .int (iI ((cln : Nat) : Int))])), (xca, .inl (cI, 60, .inl (rN (clc))))]) (wr := [(xp, .inr (4, [.ref xc, .ref xs, .ref h, .ref xq, .ref xl, .int (iI ((ag : Nat) : Int)), .int (iI ((di : Nat) : Int))]))]) (ws2 := fun u => [(xp, .inr (4, [.ref xc, .ref xs, .ref h, .ref xq, .ref xl, .int (iI ((ag : Nat) : Int)), .int (iI ((di : Nat) : Int))])), (h, .inr (0, [.ref a1, .ref a2, .ref a3, .int (iI ((cln : Nat) : Int)), .ref a4, .int (iI ((cln : Nat) : Int)), .ref a5, .int (iI 0), .int (iI 0), .int (iI 0), .int (iI 0)])), (a1, .inl (cI, 160, .inl (rN (preF co clc cln)))), (a2, .inl (cI, 160, .inl (rN (preF ow (fun _ => 0) cln)))), (a3, .inl (cI, 160, .inl (rN (preF er (fun _ => 0) cln)))), (a4, .inl (cI, 60, .inl (rN (u)))), (xc, .inr (1, [.ref xca, .int (iI ((cln : Nat) : Int))])), (xca, .inl (cI, 60, .inl (rN (clc))))]) S hE hP hD hS hA (c_startWith l D cI cB cZ cO s.heap.size h a1 a2 a3 a4 a5 tt ln ed es ac cu co ow er ix xc xca 60 cln clc (by first | assumption | (omega)) (by first | assumption | (omega)) (by first | assumption | (omega)) (by first | assumption | (omega)) (by first | assumption | (omega)) (by first | assumption | (omega))) gX4_begin_X0_startWith rfl ⟨rfl, rfl⟩ (by decide +kernel) ⟨Nat.le_of_ble_eq_true rfl, Nat.le_of_ble_eq_true rfl⟩ [1, 2, 3, 4, 5, 6, 7] [0] [0, 1, 2, 3, 4, 5, 6, 7] rfl (by decide) rfl (by decide) (by decide) (by decide) (fun u => rfl) 0 0 rfl rfl rfl hl.1 rfl (Nat.le_of_ble_eq_true rfl) dX4_begin_8 ⟨Nat.le_of_ble_eq_true rfl, Nat.le_of_ble_eq_true rfl⟩ (fun u u8p H locs hP hD hS => ?_)
  generalize u = ix2_u8 at u8p hP hD ⊢
  obtain ⟨hix2_u8, hok_u8⟩ := u8p
  have hix2_u8 : ∀ j, ix2_u8 j < 160 := hix2_u8
  have hok_u8 : ixOK (visb (preF ow (fun _ => 0) cln) (preF er (fun _ => 0) cln) 0) cln ix2_u8 := hok_u8
  have hP : va_P D vwCl [(xp, .inr (4, [.ref xc, .ref xs, .ref h, .ref xq, .ref xl, .int (iI ((ag : Nat) : Int)), .int (iI ((di : Nat) : Int))])), (h, .inr (0, [.ref a1, .ref a2, .ref a3, .int (iI ((cln : Nat) : Int)), .ref a4, .int (iI ((cln : Nat) : Int)), .ref a5, .int (iI 0), .int (iI 0), .int (iI 0), .int (iI 0)])), (a1, .inl (cI, 160, .inl (rN (preF co clc cln)))), (a2, .inl (cI, 160, .inl (rN (preF ow (fun _ => 0) cln)))), (a3, .inl (cI, 160, .inl (rN (preF er (fun _ => 0) cln)))), (a4, .inl (cI, 60, .inl (rN (ix2_u8)))), (xc, .inr (1, [.ref xca, .int (iI ((cln : Nat) : Int))])), (xca, .inl (cI, 60, .inl (rN (clc))))] H := hP
  have hD : va_D A [(xp, .inr (4, [.ref xc, .ref xs, .ref h, .ref xq, .ref xl, .int (iI ((ag : Nat) : Int)), .int (iI ((di : Nat) : Int))])), (h, .inr (0, [.ref a1, .ref a2, .ref a3, .int (iI ((cln : Nat) : Int)), .ref a4, .int (iI ((cln : Nat) : Int)), .ref a5, .int (iI 0), .int (iI 0), .int (iI 0), .int (iI 0)])), (a1, .inl (cI, 160, .inl (rN (preF co clc cln)))), (a2, .inl (cI, 160, .inl (rN (preF ow (fun _ => 0) cln)))), (a3, .inl (cI, 160, .inl (rN (preF er (fun _ => 0) cln)))), (a4, .inl (cI, 60, .inl (rN (ix2_u8)))), (xc, .inr (1, [.ref xca, .int (iI ((cln : Nat) : Int))])), (xca, .inl (cI, 60, .inl (rN (clc))))] := hD
  refine W.eq (g2 := F0 m 11 ls []) rfl ?_
  refine lv_aload_n hx hb dX4_begin_11 rfl (lv_at hl 0 rfl) ?_
  refine va_get (D := D) (ci := 4) (v := .ref xc) (C := RX4) (T := TX4) (N := 7) hx hb hts nX4_begin_X4 hown hK hP 0 rfl rfl 0 (by decide) (hts _ kX4_begin_14) (fun _ h9 => h9) rfl dX4_begin_12 ?_
  refine callVX (n := 0) (As := []) (rest := []) (wc := [(xc, .inr (1, [.ref xca, .int (iI ((cln : Nat) : Int))])), (xca, .inl (cI, 60, .inl (rN (clc))))]) (wr := [(xp, .inr (4, [.ref xc, .ref xs, .ref h, .ref xq, .ref xl, .int (iI ((ag : Nat) : Int)), .int (iI ((di : Nat) : Int))])), (h, .inr (0, [.ref a1, .ref a2, .ref a3, .int (iI ((cln : Nat) : Int)), .ref a4, .int (iI ((cln : Nat) : Int)), .ref a5, .int (iI 0), .int (iI 0), .int (iI 0), .int (iI 0)])), (a1, .inl (cI, 160, .inl (rN (preF co clc cln)))), (a2, .inl (cI, 160, .inl (rN (preF ow (fun _ => 0) cln)))), (a3, .inl (cI, 160, .inl (rN (preF er (fun _ => 0) cln)))), (a4, .inl (cI, 60, .inl (rN (ix2_u8))))]) (ws2 := fun u => [(xp, .inr (4, [.ref xc, .ref xs, .ref h, .ref xq, .ref xl, .int (iI ((ag : Nat) : Int)), .int (iI ((di : Nat) : Int))])), (h, .inr (0, [.ref a1, .ref a2, .ref a3, .int (iI ((cln : Nat) : Int)), .ref a4, .int (iI ((cln : Nat) : Int)), .ref a5, .int (iI 0), .int (iI 0), .int (iI 0), .int (iI 0)])), (a1, .inl (cI, 160, .inl (rN (preF co clc cln)))), (a2, .inl (cI, 160, .inl (rN (preF ow (fun _ => 0) cln)))), (a3, .inl (cI, 160, .inl (rN (preF er (fun _ => 0) cln)))), (a4, .inl (cI, 60, .inl (rN (ix2_u8)))), (xc, .inr (1, [.ref xca, .int (iI 0)])), (xca, .inl (cI, 60, .inl (rN (clc))))]) S hE hP hD hS hA (c_row_drop l D cI cB cZ cO H.size xc xca 60 clc cln (by first | assumption | (omega))) gX4_begin_X1_drop rfl ⟨rfl, rfl⟩ (by decide +kernel) ⟨Nat.le_of_ble_eq_true rfl, Nat.le_of_ble_eq_true rfl⟩ [6, 7] [0, 1, 2, 3, 4, 5] [0, 1, 2, 3, 4, 5, 6, 7] rfl (by decide) rfl (by decide) (by decide) (by decide) (fun u => rfl) 1 0 rfl rfl rfl hl.1 rfl (Nat.le_of_ble_eq_true rfl) dX4_begin_15 ⟨Nat.le_of_ble_eq_true rfl, Nat.le_of_ble_eq_true rfl⟩ (fun u u15p H locs hP hD hS => ?_)
  have hP : va_P D vwCl [(xp, .inr (4, [.ref xc, .ref xs, .ref h, .ref xq, .ref xl, .int (iI ((ag : Nat) : Int)), .int (iI ((di : Nat) : Int))])), (h, .inr (0, [.ref a1, .ref a2, .ref a3, .int (iI ((cln : Nat) : Int)), .ref a4, .int (iI ((cln : Nat) : Int)), .ref a5, .int (iI 0), .int (iI 0), .int (iI 0), .int (iI 0)])), (a1, .inl (cI, 160, .inl (rN (preF co clc cln)))), (a2, .inl (cI, 160, .inl (rN (preF ow (fun _ => 0) cln)))), (a3, .inl (cI, 160, .inl (rN (preF er (fun _ => 0) cln)))), (a4, .inl (cI, 60, .inl (rN (ix2_u8)))), (xc, .inr (1, [.ref xca, .int (iI 0)])), (xca, .inl (cI, 60, .inl (rN (clc))))] H := hP
  have hD : va_D A [(xp, .inr (4, [.ref xc, .ref xs, .ref h, .ref xq, .ref xl, .int (iI ((ag : Nat) : Int)), .int (iI ((di : Nat) : Int))])), (h, .inr (0, [.ref a1, .ref a2, .ref a3, .int (iI ((cln : Nat) : Int)), .ref a4, .int (iI ((cln : Nat) : Int)), .ref a5, .int (iI 0), .int (iI 0), .int (iI 0), .int (iI 0)])), (a1, .inl (cI, 160, .inl (rN (preF co clc cln)))), (a2, .inl (cI, 160, .inl (rN (preF ow (fun _ => 0) cln)))), (a3, .inl (cI, 160, .inl (rN (preF er (fun _ => 0) cln)))), (a4, .inl (cI, 60, .inl (rN (ix2_u8)))), (xc, .inr (1, [.ref xca, .int (iI 0)])), (xca, .inl (cI, 60, .inl (rN (clc))))] := hD
  refine W.eq (g2 := F0 m 18 ls [.int (iI ((cln : Nat) : Int))]) rfl ?_
  refine lv_pop hx hb dX4_begin_18 rfl ?_
  refine lv_aload_n hx hb dX4_begin_19 rfl (lv_at hl 0 rfl) ?_
  refine va_get (D := D) (ci := 4) (v := .ref h) (C := RX4) (T := TX4) (N := 7) hx hb hts nX4_begin_X4 hown hK hP 0 rfl rfl 2 (by decide) (hts _ kX4_begin_28) (fun _ h9 => h9) rfl dX4_begin_20 ?_
  refine va_getN (D := D) (ci := 0) (v := .int (iI ((cln : Nat) : Int))) (C := RX0) (T := TX0) (N := 11) hx hb hts nX4_begin_X0 hown hK hP 1 rfl rfl 5 (by decide) (va_Nw.use rfl (hE.2.f 14 rfl)) (fun _ h9 => h9) rfl dX4_begin_23 ?_
  exact r_iretX hx hb hr hlocks hP hD hS (ix2_u8) (rfl) (⟨by assumption, by assumption⟩) rfl dX4_begin_26

theorem kX4_insert_28 : Cond.fieldLink RX4 28 "PricedUndo" "buffer" "LPricedUndo$Buffer;" ∈ wsX4_insert := by decide +kernel
theorem nX4_insert_X4 : ∀ w ∈ u_ws RX4 TX4 7, w ∈ wsX4_insert := by decide +kernel
theorem kX4_insert_14 : Cond.fieldLink RX4 14 "PricedUndo" "clip" "LPricedUndo$Row;" ∈ wsX4_insert := by decide +kernel
theorem nX4_insert_X1 : ∀ w ∈ u_ws RX1 TX1 2, w ∈ wsX4_insert := by decide +kernel
set_option maxHeartbeats 4000000 in
set_option maxRecDepth 100000 in
theorem p_insert_bad (l : Launch) (D : va_G) (cI cB cZ cO : ClassId) (xp : Nat) (xc : Nat) (xs : Nat) (xq : Nat) (xl : Nat) (ag : Nat) (di : Nat) (h : Nat) (a1 : Nat) (a2 : Nat) (a3 : Nat) (a4 : Nat) (a5 : Nat) (tt : Nat) (ln : Nat) (ed : Nat) (es : Nat) (ac : Nat) (cu : Nat) (xca : Nat) (cln : Nat) (clc : Nat → Nat) (x : Int) (hln : ln ≤ 60) (htt : tt ≤ 160) (hed : ed ≤ 16) (hcl : cln ≤ 60) (rx : rg x) (hbad : ¬ (0 ≤ x ∧ x ≤ (ln : Int))) : Met l yX4_insert wsX4_insert ({ frames := 1, cells := 0, slots := 0, locals := 26 }) (va_Pc [.ref xp, .int (iI (x))] (RO D cI cB cZ cO [(xp, .inr (4, [.ref xc, .ref xs, .ref h, .ref xq, .ref xl, .int (iI ((ag : Nat) : Int)), .int (iI ((di : Nat) : Int))])), (h, .inr (0, [.ref a1, .ref a2, .ref a3, .int (iI ((tt : Nat) : Int)), .ref a4, .int (iI ((ln : Nat) : Int)), .ref a5, .int (iI ((ed : Nat) : Int)), .int (iI ((es : Nat) : Int)), .int (iI ((ac : Nat) : Int)), .int (iI ((cu : Nat) : Int))])), (xc, .inr (1, [.ref xca, .int (iI ((cln : Nat) : Int))])), (xca, .inl (cI, 60, .inl (rN (clc))))])) (QO (-1)) 0 0 (fun _ => False) := by
  refine startO (cc := cX4_insert) (maxL := 3) (ret := (some .int)) (by decide) rfl (Nat.le_of_ble_eq_true rfl) ?_
  intro p e s m below meth c S hr hlocks hE hP ls hl
  have hx := S.1
  have hb := S.2.1
  have hown := S.2.2.2.1
  have hts := S.2.2.2.2
  have hK := hE.1
  have hl : lv_has ls 3 [(0, .ref xp), (1, .int (iI (x)))] := hl
  refine lv_aload_n hx hb dX4_insert_0 rfl (lv_at hl 0 rfl) ?_
  refine va_get (D := D) (ci := 4) (v := .ref h) (C := RX4) (T := TX4) (N := 7) hx hb hts nX4_insert_X4 hown hK hP 0 rfl rfl 2 (by decide) (hts _ kX4_insert_28) (fun _ h9 => h9) rfl dX4_insert_1 ?_
  refine lv_iload_n hx hb dX4_insert_4 rfl (lv_at hl 1 rfl) ?_
  refine lv_aload_n hx hb dX4_insert_5 rfl (lv_at hl 0 rfl) ?_
  refine va_get (D := D) (ci := 4) (v := .ref xc) (C := RX4) (T := TX4) (N := 7) hx hb hts nX4_insert_X4 hown hK hP 0 rfl rfl 0 (by decide) (hts _ kX4_insert_14) (fun _ h9 => h9) rfl dX4_insert_6 ?_
  refine r_iconst hx hb dX4_insert_9 ?_
  refine lv_aload_n hx hb dX4_insert_10 rfl (lv_at hl 0 rfl) ?_
  refine va_get (D := D) (ci := 4) (v := .ref xc) (C := RX4) (T := TX4) (N := 7) hx hb hts nX4_insert_X4 hown hK hP 0 rfl rfl 0 (by decide) (hts _ kX4_insert_14) (fun _ h9 => h9) rfl dX4_insert_11 ?_
  refine va_getN (D := D) (ci := 1) (v := .int (iI ((cln : Nat) : Int))) (C := RX1) (T := TX1) (N := 2) hx hb hts nX4_insert_X1 hown hK hP 2 rfl rfl 1 (by decide) (va_Nw.use rfl (hE.2.f 1 rfl)) (fun _ h9 => h9) rfl dX4_insert_14 ?_
  rw [show (0 : Int) = (0) from by omega]
  refine callVO (n := 4) (As := [.int (iI (x)), .ref xc, .int (iI (0)), .int (iI ((cln : Nat) : Int))]) (rest := []) (wc := [(h, .inr (0, [.ref a1, .ref a2, .ref a3, .int (iI ((tt : Nat) : Int)), .ref a4, .int (iI ((ln : Nat) : Int)), .ref a5, .int (iI ((ed : Nat) : Int)), .int (iI ((es : Nat) : Int)), .int (iI ((ac : Nat) : Int)), .int (iI ((cu : Nat) : Int))]))]) S (c_addIns_bad l D cI cB cZ cO h a1 a2 a3 a4 a5 tt ln ed es ac cu xc x 0 (((cln : Nat) : Int)) (by first | assumption | (omega)) (by first | assumption | (omega)) (by first | assumption | (omega)) (by first | assumption | (omega)) (by first | assumption | (omega)) (by first | assumption | (omega)) (by first | assumption | (omega))) gX4_insert_X0_addInsertion rfl ⟨rfl, rfl⟩ (by decide +kernel) ⟨Nat.le_of_ble_eq_true rfl, Nat.le_of_ble_eq_true rfl⟩ hE hP [1] rfl 0 0 rfl rfl rfl hl.1 rfl (Nat.le_of_ble_eq_true rfl) dX4_insert_17 ⟨Nat.le_of_ble_eq_true rfl, Nat.le_of_ble_eq_true rfl⟩ ?_
  refine lv_istore_n (lv' := [(2, .int (iI (-1))), (0, .ref xp), (1, .int (iI (x)))]) hx hb dX4_insert_20 rfl hl (by decide) rfl (fun ls hl => ?_)
  refine lv_iload_n hx hb dX4_insert_21 rfl (lv_at hl 0 rfl) ?_
  refine r_if_lt (tgt := 33) hx hb (⟨by decide, by decide⟩) dX4_insert_22 (by decide) (fun c_1 => ?_) (fun c_1 => ?_)
  · skip
    refine lv_iload_n hx hb dX4_insert_33 rfl (lv_at hl 0 rfl) ?_
    exact r_iretO hx hb hr hlocks (rfl) dX4_insert_34
  · skip
    exact absurd c_1 (by decide)

set_option maxHeartbeats 4000000 in
set_option maxRecDepth 100000 in
theorem p_insert_st (l : Launch) (D : va_G) (cI cB cZ cO : ClassId) (xp : Nat) (xc : Nat) (xs : Nat) (xq : Nat) (xl : Nat) (ag : Nat) (di : Nat) (h : Nat) (a1 : Nat) (a2 : Nat) (a3 : Nat) (a4 : Nat) (a5 : Nat) (tt : Nat) (ln : Nat) (ed : Nat) (es : Nat) (ac : Nat) (cu : Nat) (xca : Nat) (cln : Nat) (clc : Nat → Nat) (x : Int) (hln : ln ≤ 60) (htt : tt ≤ 160) (hed : ed ≤ 16) (hcl : cln ≤ 60) (rx : rg x) (hgood : 0 ≤ x ∧ x ≤ (ln : Int)) (hbad : cln < 1 ∨ 8 < cln) : Met l yX4_insert wsX4_insert ({ frames := 1, cells := 0, slots := 0, locals := 26 }) (va_Pc [.ref xp, .int (iI (x))] (RO D cI cB cZ cO [(xp, .inr (4, [.ref xc, .ref xs, .ref h, .ref xq, .ref xl, .int (iI ((ag : Nat) : Int)), .int (iI ((di : Nat) : Int))])), (h, .inr (0, [.ref a1, .ref a2, .ref a3, .int (iI ((tt : Nat) : Int)), .ref a4, .int (iI ((ln : Nat) : Int)), .ref a5, .int (iI ((ed : Nat) : Int)), .int (iI ((es : Nat) : Int)), .int (iI ((ac : Nat) : Int)), .int (iI ((cu : Nat) : Int))])), (xc, .inr (1, [.ref xca, .int (iI ((cln : Nat) : Int))])), (xca, .inl (cI, 60, .inl (rN (clc))))])) (QO (-2)) 0 0 (fun _ => False) := by
  refine startO (cc := cX4_insert) (maxL := 3) (ret := (some .int)) (by decide) rfl (Nat.le_of_ble_eq_true rfl) ?_
  intro p e s m below meth c S hr hlocks hE hP ls hl
  have hx := S.1
  have hb := S.2.1
  have hown := S.2.2.2.1
  have hts := S.2.2.2.2
  have hK := hE.1
  have hl : lv_has ls 3 [(0, .ref xp), (1, .int (iI (x)))] := hl
  refine lv_aload_n hx hb dX4_insert_0 rfl (lv_at hl 0 rfl) ?_
  refine va_get (D := D) (ci := 4) (v := .ref h) (C := RX4) (T := TX4) (N := 7) hx hb hts nX4_insert_X4 hown hK hP 0 rfl rfl 2 (by decide) (hts _ kX4_insert_28) (fun _ h9 => h9) rfl dX4_insert_1 ?_
  refine lv_iload_n hx hb dX4_insert_4 rfl (lv_at hl 1 rfl) ?_
  refine lv_aload_n hx hb dX4_insert_5 rfl (lv_at hl 0 rfl) ?_
  refine va_get (D := D) (ci := 4) (v := .ref xc) (C := RX4) (T := TX4) (N := 7) hx hb hts nX4_insert_X4 hown hK hP 0 rfl rfl 0 (by decide) (hts _ kX4_insert_14) (fun _ h9 => h9) rfl dX4_insert_6 ?_
  refine r_iconst hx hb dX4_insert_9 ?_
  refine lv_aload_n hx hb dX4_insert_10 rfl (lv_at hl 0 rfl) ?_
  refine va_get (D := D) (ci := 4) (v := .ref xc) (C := RX4) (T := TX4) (N := 7) hx hb hts nX4_insert_X4 hown hK hP 0 rfl rfl 0 (by decide) (hts _ kX4_insert_14) (fun _ h9 => h9) rfl dX4_insert_11 ?_
  refine va_getN (D := D) (ci := 1) (v := .int (iI ((cln : Nat) : Int))) (C := RX1) (T := TX1) (N := 2) hx hb hts nX4_insert_X1 hown hK hP 2 rfl rfl 1 (by decide) (va_Nw.use rfl (hE.2.f 1 rfl)) (fun _ h9 => h9) rfl dX4_insert_14 ?_
  rw [show (0 : Int) = (0) from by omega]
  refine callVO (n := 4) (As := [.int (iI (x)), .ref xc, .int (iI (0)), .int (iI ((cln : Nat) : Int))]) (rest := []) (wc := [(h, .inr (0, [.ref a1, .ref a2, .ref a3, .int (iI ((tt : Nat) : Int)), .ref a4, .int (iI ((ln : Nat) : Int)), .ref a5, .int (iI ((ed : Nat) : Int)), .int (iI ((es : Nat) : Int)), .int (iI ((ac : Nat) : Int)), .int (iI ((cu : Nat) : Int))]))]) S (c_addIns_st l D cI cB cZ cO h a1 a2 a3 a4 a5 tt ln ed es ac cu xc x 0 (((cln : Nat) : Int)) (by first | assumption | (omega)) (by first | assumption | (omega)) (by first | assumption | (omega)) (by first | assumption | (omega)) (by first | assumption | (omega)) (by first | assumption | (omega)) (by first | assumption | (omega)) (by first | assumption | (omega)) (by first | assumption | (omega))) gX4_insert_X0_addInsertion rfl ⟨rfl, rfl⟩ (by decide +kernel) ⟨Nat.le_of_ble_eq_true rfl, Nat.le_of_ble_eq_true rfl⟩ hE hP [1] rfl 0 0 rfl rfl rfl hl.1 rfl (Nat.le_of_ble_eq_true rfl) dX4_insert_17 ⟨Nat.le_of_ble_eq_true rfl, Nat.le_of_ble_eq_true rfl⟩ ?_
  refine lv_istore_n (lv' := [(2, .int (iI (-2))), (0, .ref xp), (1, .int (iI (x)))]) hx hb dX4_insert_20 rfl hl (by decide) rfl (fun ls hl => ?_)
  refine lv_iload_n hx hb dX4_insert_21 rfl (lv_at hl 0 rfl) ?_
  refine r_if_lt (tgt := 33) hx hb (⟨by decide, by decide⟩) dX4_insert_22 (by decide) (fun c_1 => ?_) (fun c_1 => ?_)
  · skip
    refine lv_iload_n hx hb dX4_insert_33 rfl (lv_at hl 0 rfl) ?_
    exact r_iretO hx hb hr hlocks (rfl) dX4_insert_34
  · skip
    exact absurd c_1 (by decide)

set_option maxHeartbeats 4000000 in
set_option maxRecDepth 100000 in
theorem p_insert_full (l : Launch) (D : va_G) (cI cB cZ cO : ClassId) (xp : Nat) (xc : Nat) (xs : Nat) (xq : Nat) (xl : Nat) (ag : Nat) (di : Nat) (h : Nat) (a1 : Nat) (a2 : Nat) (a3 : Nat) (a4 : Nat) (a5 : Nat) (tt : Nat) (ln : Nat) (ed : Nat) (es : Nat) (ac : Nat) (cu : Nat) (xca : Nat) (cln : Nat) (clc : Nat → Nat) (x : Int) (hln : ln ≤ 60) (htt : tt ≤ 160) (hed : ed ≤ 16) (hcl : cln ≤ 60) (rx : rg x) (hgood : 0 ≤ x ∧ x ≤ (ln : Int)) (hc : 1 ≤ cln ∧ cln ≤ 8) (hbad : ¬ (ed < 16 ∧ ln + cln ≤ 60 ∧ tt + cln ≤ 160)) : Met l yX4_insert wsX4_insert ({ frames := 1, cells := 0, slots := 0, locals := 26 }) (va_Pc [.ref xp, .int (iI (x))] (RO D cI cB cZ cO [(xp, .inr (4, [.ref xc, .ref xs, .ref h, .ref xq, .ref xl, .int (iI ((ag : Nat) : Int)), .int (iI ((di : Nat) : Int))])), (h, .inr (0, [.ref a1, .ref a2, .ref a3, .int (iI ((tt : Nat) : Int)), .ref a4, .int (iI ((ln : Nat) : Int)), .ref a5, .int (iI ((ed : Nat) : Int)), .int (iI ((es : Nat) : Int)), .int (iI ((ac : Nat) : Int)), .int (iI ((cu : Nat) : Int))])), (xc, .inr (1, [.ref xca, .int (iI ((cln : Nat) : Int))])), (xca, .inl (cI, 60, .inl (rN (clc))))])) (QO (-3)) 0 0 (fun _ => False) := by
  refine startO (cc := cX4_insert) (maxL := 3) (ret := (some .int)) (by decide) rfl (Nat.le_of_ble_eq_true rfl) ?_
  intro p e s m below meth c S hr hlocks hE hP ls hl
  have hx := S.1
  have hb := S.2.1
  have hown := S.2.2.2.1
  have hts := S.2.2.2.2
  have hK := hE.1
  have hl : lv_has ls 3 [(0, .ref xp), (1, .int (iI (x)))] := hl
  refine lv_aload_n hx hb dX4_insert_0 rfl (lv_at hl 0 rfl) ?_
  refine va_get (D := D) (ci := 4) (v := .ref h) (C := RX4) (T := TX4) (N := 7) hx hb hts nX4_insert_X4 hown hK hP 0 rfl rfl 2 (by decide) (hts _ kX4_insert_28) (fun _ h9 => h9) rfl dX4_insert_1 ?_
  refine lv_iload_n hx hb dX4_insert_4 rfl (lv_at hl 1 rfl) ?_
  refine lv_aload_n hx hb dX4_insert_5 rfl (lv_at hl 0 rfl) ?_
  refine va_get (D := D) (ci := 4) (v := .ref xc) (C := RX4) (T := TX4) (N := 7) hx hb hts nX4_insert_X4 hown hK hP 0 rfl rfl 0 (by decide) (hts _ kX4_insert_14) (fun _ h9 => h9) rfl dX4_insert_6 ?_
  refine r_iconst hx hb dX4_insert_9 ?_
  refine lv_aload_n hx hb dX4_insert_10 rfl (lv_at hl 0 rfl) ?_
  refine va_get (D := D) (ci := 4) (v := .ref xc) (C := RX4) (T := TX4) (N := 7) hx hb hts nX4_insert_X4 hown hK hP 0 rfl rfl 0 (by decide) (hts _ kX4_insert_14) (fun _ h9 => h9) rfl dX4_insert_11 ?_
  refine va_getN (D := D) (ci := 1) (v := .int (iI ((cln : Nat) : Int))) (C := RX1) (T := TX1) (N := 2) hx hb hts nX4_insert_X1 hown hK hP 2 rfl rfl 1 (by decide) (va_Nw.use rfl (hE.2.f 1 rfl)) (fun _ h9 => h9) rfl dX4_insert_14 ?_
  rw [show (0 : Int) = (0) from by omega]
  refine callVO (n := 4) (As := [.int (iI (x)), .ref xc, .int (iI (0)), .int (iI ((cln : Nat) : Int))]) (rest := []) (wc := [(h, .inr (0, [.ref a1, .ref a2, .ref a3, .int (iI ((tt : Nat) : Int)), .ref a4, .int (iI ((ln : Nat) : Int)), .ref a5, .int (iI ((ed : Nat) : Int)), .int (iI ((es : Nat) : Int)), .int (iI ((ac : Nat) : Int)), .int (iI ((cu : Nat) : Int))]))]) S (c_addIns_full l D cI cB cZ cO h a1 a2 a3 a4 a5 tt ln ed es ac cu xc x 0 (((cln : Nat) : Int)) (by first | assumption | (omega)) (by first | assumption | (omega)) (by first | assumption | (omega)) (by first | assumption | (omega)) (by first | assumption | (omega)) (by first | assumption | (omega)) (by first | assumption | (omega)) (by first | assumption | (omega)) (by first | assumption | (omega)) (by first | assumption | (omega)) (by first | assumption | (omega))) gX4_insert_X0_addInsertion rfl ⟨rfl, rfl⟩ (by decide +kernel) ⟨Nat.le_of_ble_eq_true rfl, Nat.le_of_ble_eq_true rfl⟩ hE hP [1] rfl 0 0 rfl rfl rfl hl.1 rfl (Nat.le_of_ble_eq_true rfl) dX4_insert_17 ⟨Nat.le_of_ble_eq_true rfl, Nat.le_of_ble_eq_true rfl⟩ ?_
  refine lv_istore_n (lv' := [(2, .int (iI (-3))), (0, .ref xp), (1, .int (iI (x)))]) hx hb dX4_insert_20 rfl hl (by decide) rfl (fun ls hl => ?_)
  refine lv_iload_n hx hb dX4_insert_21 rfl (lv_at hl 0 rfl) ?_
  refine r_if_lt (tgt := 33) hx hb (⟨by decide, by decide⟩) dX4_insert_22 (by decide) (fun c_1 => ?_) (fun c_1 => ?_)
  · skip
    refine lv_iload_n hx hb dX4_insert_33 rfl (lv_at hl 0 rfl) ?_
    exact r_iretO hx hb hr hlocks (rfl) dX4_insert_34
  · skip
    exact absurd c_1 (by decide)

set_option maxHeartbeats 4000000 in
set_option maxRecDepth 100000 in
theorem p_insert_S (l : Launch) (D : va_G) (cI cB cZ cO : ClassId) (sz : Nat) (xp : Nat) (xc : Nat) (xs : Nat) (xq : Nat) (xl : Nat) (ag : Nat) (di : Nat) (h : Nat) (a1 : Nat) (a2 : Nat) (a3 : Nat) (a4 : Nat) (a5 : Nat) (tt : Nat) (ln : Nat) (ed : Nat) (es : Nat) (ac : Nat) (cu : Nat) (co : Nat → Nat) (ow : Nat → Nat) (er : Nat → Nat) (ix : Nat → Nat) (ba : Nat → Nat) (xca : Nat) (cln : Nat) (clc : Nat → Nat) (g1 : Nat) (hln : ln ≤ 60) (htt : tt ≤ 160) (hac : ac < 65536) (hix : ∀ j, ix j < 160) (hba : ∀ k, ba k < 65536) (hcu : cu ≤ 60) (how : ∀ k, ow k < 65536) (her : ∀ k, er k < 65536) (hoe : ∀ j, j < ln → ow (ix j) = 0 ∨ popc (ow (ix j) - 1) < ed) (hc0 : 1 ≤ cln) (hc1 : cln ≤ 8) (hed : ed < 16) (hlc : ln + cln ≤ 60) (htc : tt + cln ≤ 160) (hcap : cnt (visb (inR (shF ow (ix g1 + 1) cln tt) (ix g1 + 1) (fun _ => 2 ^ ed) cln) (inR (shF er (ix g1 + 1) cln tt) (ix g1 + 1) (fun _ => 0) cln) (ac ||| 2 ^ ed)) (tt + cln) ≤ 60) (hg1 : g1 < ln) (hgt : ix g1 < tt) (hcl : cln ≤ 60) : Met l yX4_insert wsX4_insert ({ frames := 4, cells := 0, slots := 0, locals := 90 }) (va_Pc [.ref xp, .int (iI ((g1 + 1 : Nat) : Int))] (RW D cI cB cZ cO sz [(xp, .inr (4, [.ref xc, .ref xs, .ref h, .ref xq, .ref xl, .int (iI ((ag : Nat) : Int)), .int (iI ((di : Nat) : Int))])), (h, .inr (0, [.ref a1, .ref a2, .ref a3, .int (iI ((tt : Nat) : Int)), .ref a4, .int (iI ((ln : Nat) : Int)), .ref a5, .int (iI ((ed : Nat) : Int)), .int (iI ((es : Nat) : Int)), .int (iI ((ac : Nat) : Int)), .int (iI ((cu : Nat) : Int))])), (a1, .inl (cI, 160, .inl (rN (co)))), (a2, .inl (cI, 160, .inl (rN (ow)))), (a3, .inl (cI, 160, .inl (rN (er)))), (a4, .inl (cI, 60, .inl (rN (ix)))), (a5, .inl (cI, 16, .inl (rN (ba)))), (xc, .inr (1, [.ref xca, .int (iI ((cln : Nat) : Int))])), (xca, .inl (cI, 60, .inl (rN (clc))))])) (QX D (S := (Nat → Nat)) (fun u => some (.int (iI ((ed : Nat) : Int)))) (fun u => (∀ j, u j < 160) ∧ (ixOK (visb (inR (shF ow (ix g1 + 1) cln tt) (ix g1 + 1) (fun _ => 2 ^ ed) cln) (inR (shF er (ix g1 + 1) cln tt) (ix g1 + 1) (fun _ => 0) cln) (ac ||| 2 ^ ed)) (tt + cln) u)) (fun u => [(xp, .inr (4, [.ref xc, .ref xs, .ref h, .ref xq, .ref xl, .int (iI ((ag : Nat) : Int)), .int (iI ((di : Nat) : Int))])), (h, .inr (0, [.ref a1, .ref a2, .ref a3, .int (iI ((tt + cln : Nat) : Int)), .ref a4, .int (iI ((cnt (visb (inR (shF ow (ix g1 + 1) cln tt) (ix g1 + 1) (fun _ => 2 ^ ed) cln) (inR (shF er (ix g1 + 1) cln tt) (ix g1 + 1) (fun _ => 0) cln) (ac ||| 2 ^ ed)) (tt + cln) : Nat) : Int)), .ref a5, .int (iI ((ed + 1 : Nat) : Int)), .int (iI ((es : Nat) : Int)), .int (iI ((ac ||| 2 ^ ed : Nat) : Int)), .int (iI ((min cu (cnt (visb (inR (shF ow (ix g1 + 1) cln tt) (ix g1 + 1) (fun _ => 2 ^ ed) cln) (inR (shF er (ix g1 + 1) cln tt) (ix g1 + 1) (fun _ => 0) cln) (ac ||| 2 ^ ed)) (tt + cln)) : Nat) : Int))])), (a1, .inl (cI, 160, .inl (rN (inR (shF co (ix g1 + 1) cln tt) (ix g1 + 1) (fun i => clc (0 + i)) cln)))), (a2, .inl (cI, 160, .inl (rN (inR (shF ow (ix g1 + 1) cln tt) (ix g1 + 1) (fun _ => 2 ^ ed) cln)))), (a3, .inl (cI, 160, .inl (rN (inR (shF er (ix g1 + 1) cln tt) (ix g1 + 1) (fun _ => 0) cln)))), (a4, .inl (cI, 60, .inl (rN (u)))), (a5, .inl (cI, 16, .inl (rN (up ba ed (bth ba (ow (ix g1))))))), (xc, .inr (1, [.ref xca, .int (iI 0)])), (xca, .inl (cI, 60, .inl (rN (clc))))]) (va_A [(xp, .inr (4, [.ref xc, .ref xs, .ref h, .ref xq, .ref xl, .int (iI ((ag : Nat) : Int)), .int (iI ((di : Nat) : Int))])), (h, .inr (0, [.ref a1, .ref a2, .ref a3, .int (iI ((tt : Nat) : Int)), .ref a4, .int (iI ((ln : Nat) : Int)), .ref a5, .int (iI ((ed : Nat) : Int)), .int (iI ((es : Nat) : Int)), .int (iI ((ac : Nat) : Int)), .int (iI ((cu : Nat) : Int))])), (a1, .inl (cI, 160, .inl (rN (co)))), (a2, .inl (cI, 160, .inl (rN (ow)))), (a3, .inl (cI, 160, .inl (rN (er)))), (a4, .inl (cI, 60, .inl (rN (ix)))), (a5, .inl (cI, 16, .inl (rN (ba)))), (xc, .inr (1, [.ref xca, .int (iI ((cln : Nat) : Int))])), (xca, .inl (cI, 60, .inl (rN (clc))))] sz)) 0 0 (va_A [(xp, .inr (4, [.ref xc, .ref xs, .ref h, .ref xq, .ref xl, .int (iI ((ag : Nat) : Int)), .int (iI ((di : Nat) : Int))])), (h, .inr (0, [.ref a1, .ref a2, .ref a3, .int (iI ((tt : Nat) : Int)), .ref a4, .int (iI ((ln : Nat) : Int)), .ref a5, .int (iI ((ed : Nat) : Int)), .int (iI ((es : Nat) : Int)), .int (iI ((ac : Nat) : Int)), .int (iI ((cu : Nat) : Int))])), (a1, .inl (cI, 160, .inl (rN (co)))), (a2, .inl (cI, 160, .inl (rN (ow)))), (a3, .inl (cI, 160, .inl (rN (er)))), (a4, .inl (cI, 60, .inl (rN (ix)))), (a5, .inl (cI, 16, .inl (rN (ba)))), (xc, .inr (1, [.ref xca, .int (iI ((cln : Nat) : Int))])), (xca, .inl (cI, 60, .inl (rN (clc))))] sz) := by
  refine startW (cc := cX4_insert) (maxL := 3) (ret := (some .int)) (by decide) rfl (Nat.le_of_ble_eq_true rfl) ?_
  intro p e s m below meth c S hr hlocks hE hP A hD hA hS ls hl
  have hx := S.1
  have hb := S.2.1
  have hown := S.2.2.2.1
  have hts := S.2.2.2.2
  have hK := hE.1
  have hl : lv_has ls 3 [(0, .ref xp), (1, .int (iI ((g1 + 1 : Nat) : Int)))] := hl
  refine lv_aload_n hx hb dX4_insert_0 rfl (lv_at hl 0 rfl) ?_
  refine va_get (D := D) (ci := 4) (v := .ref h) (C := RX4) (T := TX4) (N := 7) hx hb hts nX4_insert_X4 hown hK hP 0 rfl rfl 2 (by decide) (hts _ kX4_insert_28) (fun _ h9 => h9) rfl dX4_insert_1 ?_
  refine lv_iload_n hx hb dX4_insert_4 rfl (lv_at hl 1 rfl) ?_
  refine lv_aload_n hx hb dX4_insert_5 rfl (lv_at hl 0 rfl) ?_
  refine va_get (D := D) (ci := 4) (v := .ref xc) (C := RX4) (T := TX4) (N := 7) hx hb hts nX4_insert_X4 hown hK hP 0 rfl rfl 0 (by decide) (hts _ kX4_insert_14) (fun _ h9 => h9) rfl dX4_insert_6 ?_
  refine r_iconst hx hb dX4_insert_9 ?_
  refine lv_aload_n hx hb dX4_insert_10 rfl (lv_at hl 0 rfl) ?_
  refine va_get (D := D) (ci := 4) (v := .ref xc) (C := RX4) (T := TX4) (N := 7) hx hb hts nX4_insert_X4 hown hK hP 0 rfl rfl 0 (by decide) (hts _ kX4_insert_14) (fun _ h9 => h9) rfl dX4_insert_11 ?_
  refine va_getN (D := D) (ci := 1) (v := .int (iI ((cln : Nat) : Int))) (C := RX1) (T := TX1) (N := 2) hx hb hts nX4_insert_X1 hown hK hP 7 rfl rfl 1 (by decide) (va_Nw.use rfl (hE.2.f 1 rfl)) (fun _ h9 => h9) rfl dX4_insert_14 ?_
  refine callVX (n := 4) (As := [.int (iI ((g1 + 1 : Nat) : Int)), .ref xc, .int (iI 0), .int (iI ((cln : Nat) : Int))]) (rest := []) (wc := [(h, .inr (0, [.ref a1, .ref a2, .ref a3, .int (iI ((tt : Nat) : Int)), .ref a4, .int (iI ((ln : Nat) : Int)), .ref a5, .int (iI ((ed : Nat) : Int)), .int (iI ((es : Nat) : Int)), .int (iI ((ac : Nat) : Int)), .int (iI ((cu : Nat) : Int))])), (a1, .inl (cI, 160, .inl (rN (co)))), (a2, .inl (cI, 160, .inl (rN (ow)))), (a3, .inl (cI, 160, .inl (rN (er)))), (a4, .inl (cI, 60, .inl (rN (ix)))), (a5, .inl (cI, 16, .inl (rN (ba)))), (xc, .inr (1, [.ref xca, .int (iI ((cln : Nat) : Int))])), (xca, .inl (cI, 60, .inl (rN (clc))))]) (wr := [(xp, .inr (4, [.ref xc, .ref xs, .ref h, .ref xq, .ref xl, .int (iI ((ag : Nat) : Int)), .int (iI ((di : Nat) : Int))]))]) (ws2 := fun u => [(xp, .inr (4, [.ref xc, .ref xs, .ref h, .ref xq, .ref xl, .int (iI ((ag : Nat) : Int)), .int (iI ((di : Nat) : Int))])), (h, .inr (0, [.ref a1, .ref a2, .ref a3, .int (iI ((tt + cln : Nat) : Int)), .ref a4, .int (iI ((cnt (visb (inR (shF ow (ix g1 + 1) cln tt) (ix g1 + 1) (fun _ => 2 ^ ed) cln) (inR (shF er (ix g1 + 1) cln tt) (ix g1 + 1) (fun _ => 0) cln) (ac ||| 2 ^ ed)) (tt + cln) : Nat) : Int)), .ref a5, .int (iI ((ed + 1 : Nat) : Int)), .int (iI ((es : Nat) : Int)), .int (iI ((ac ||| 2 ^ ed : Nat) : Int)), .int (iI ((min cu (cnt (visb (inR (shF ow (ix g1 + 1) cln tt) (ix g1 + 1) (fun _ => 2 ^ ed) cln) (inR (shF er (ix g1 + 1) cln tt) (ix g1 + 1) (fun _ => 0) cln) (ac ||| 2 ^ ed)) (tt + cln)) : Nat) : Int))])), (a1, .inl (cI, 160, .inl (rN (inR (shF co (ix g1 + 1) cln tt) (ix g1 + 1) (fun i => clc (0 + i)) cln)))), (a2, .inl (cI, 160, .inl (rN (inR (shF ow (ix g1 + 1) cln tt) (ix g1 + 1) (fun _ => 2 ^ ed) cln)))), (a3, .inl (cI, 160, .inl (rN (inR (shF er (ix g1 + 1) cln tt) (ix g1 + 1) (fun _ => 0) cln)))), (a4, .inl (cI, 60, .inl (rN (u)))), (a5, .inl (cI, 16, .inl (rN (up ba ed (bth ba (ow (ix g1))))))), (xc, .inr (1, [.ref xca, .int (iI ((cln : Nat) : Int))])), (xca, .inl (cI, 60, .inl (rN (clc))))]) S hE hP hD hS hA (c_addIns_S l D cI cB cZ cO s.heap.size h a1 a2 a3 a4 a5 tt ln ed es ac cu co ow er ix ba xc xca 60 cln clc g1 0 cln (by first | assumption | (first | omega | assumption)) (by first | assumption | (first | omega | assumption)) (by first | assumption | (first | omega | assumption)) (by first | assumption | (first | omega | assumption)) (by first | assumption | (first | omega | assumption)) (by first | assumption | (first | omega | assumption)) (by first | assumption | (first | omega | assumption)) (by first | assumption | (first | omega | assumption)) (by first | assumption | (first | omega | assumption)) (by first | assumption | (first | omega | assumption)) (by first | assumption | (first | omega | assumption)) (by first | assumption | (first | omega | assumption)) (by first | assumption | (first | omega | assumption)) (by first | assumption | (first | omega | assumption)) (by first | assumption | (first | omega | assumption)) (by first | assumption | (first | omega | assumption)) (by first | assumption | (first | omega | assumption)) (by first | assumption | (first | omega | assumption)) (by first | assumption | (first | omega | assumption)) (by first | assumption | (first | omega | assumption))) gX4_insert_X0_addInsertion rfl ⟨rfl, rfl⟩ (by decide +kernel) ⟨Nat.le_of_ble_eq_true rfl, Nat.le_of_ble_eq_true rfl⟩ [1, 2, 3, 4, 5, 6, 7, 8] [0] [0, 1, 2, 3, 4, 5, 6, 7, 8] rfl (by decide) rfl (by decide) (by decide) (by decide) (fun u => rfl) 0 0 rfl rfl rfl hl.1 rfl (Nat.le_of_ble_eq_true rfl) dX4_insert_17 ⟨Nat.le_of_ble_eq_true rfl, Nat.le_of_ble_eq_true rfl⟩ (fun u u17p H locs hP hD hS => ?_)
  generalize u = ix2_u17 at u17p hP hD ⊢
  obtain ⟨hix2_u17, hok_u17⟩ := u17p
  have hix2_u17 : ∀ j, ix2_u17 j < 160 := hix2_u17
  have hok_u17 : ixOK (visb (inR (shF ow (ix g1 + 1) cln tt) (ix g1 + 1) (fun _ => 2 ^ ed) cln) (inR (shF er (ix g1 + 1) cln tt) (ix g1 + 1) (fun _ => 0) cln) (ac ||| 2 ^ ed)) (tt + cln) ix2_u17 := hok_u17
  have hP : va_P D vwCl [(xp, .inr (4, [.ref xc, .ref xs, .ref h, .ref xq, .ref xl, .int (iI ((ag : Nat) : Int)), .int (iI ((di : Nat) : Int))])), (h, .inr (0, [.ref a1, .ref a2, .ref a3, .int (iI ((tt + cln : Nat) : Int)), .ref a4, .int (iI ((cnt (visb (inR (shF ow (ix g1 + 1) cln tt) (ix g1 + 1) (fun _ => 2 ^ ed) cln) (inR (shF er (ix g1 + 1) cln tt) (ix g1 + 1) (fun _ => 0) cln) (ac ||| 2 ^ ed)) (tt + cln) : Nat) : Int)), .ref a5, .int (iI ((ed + 1 : Nat) : Int)), .int (iI ((es : Nat) : Int)), .int (iI ((ac ||| 2 ^ ed : Nat) : Int)), .int (iI ((min cu (cnt (visb (inR (shF ow (ix g1 + 1) cln tt) (ix g1 + 1) (fun _ => 2 ^ ed) cln) (inR (shF er (ix g1 + 1) cln tt) (ix g1 + 1) (fun _ => 0) cln) (ac ||| 2 ^ ed)) (tt + cln)) : Nat) : Int))])), (a1, .inl (cI, 160, .inl (rN (inR (shF co (ix g1 + 1) cln tt) (ix g1 + 1) (fun i => clc (0 + i)) cln)))), (a2, .inl (cI, 160, .inl (rN (inR (shF ow (ix g1 + 1) cln tt) (ix g1 + 1) (fun _ => 2 ^ ed) cln)))), (a3, .inl (cI, 160, .inl (rN (inR (shF er (ix g1 + 1) cln tt) (ix g1 + 1) (fun _ => 0) cln)))), (a4, .inl (cI, 60, .inl (rN (ix2_u17)))), (a5, .inl (cI, 16, .inl (rN (up ba ed (bth ba (ow (ix g1))))))), (xc, .inr (1, [.ref xca, .int (iI ((cln : Nat) : Int))])), (xca, .inl (cI, 60, .inl (rN (clc))))] H := hP
  have hD : va_D A [(xp, .inr (4, [.ref xc, .ref xs, .ref h, .ref xq, .ref xl, .int (iI ((ag : Nat) : Int)), .int (iI ((di : Nat) : Int))])), (h, .inr (0, [.ref a1, .ref a2, .ref a3, .int (iI ((tt + cln : Nat) : Int)), .ref a4, .int (iI ((cnt (visb (inR (shF ow (ix g1 + 1) cln tt) (ix g1 + 1) (fun _ => 2 ^ ed) cln) (inR (shF er (ix g1 + 1) cln tt) (ix g1 + 1) (fun _ => 0) cln) (ac ||| 2 ^ ed)) (tt + cln) : Nat) : Int)), .ref a5, .int (iI ((ed + 1 : Nat) : Int)), .int (iI ((es : Nat) : Int)), .int (iI ((ac ||| 2 ^ ed : Nat) : Int)), .int (iI ((min cu (cnt (visb (inR (shF ow (ix g1 + 1) cln tt) (ix g1 + 1) (fun _ => 2 ^ ed) cln) (inR (shF er (ix g1 + 1) cln tt) (ix g1 + 1) (fun _ => 0) cln) (ac ||| 2 ^ ed)) (tt + cln)) : Nat) : Int))])), (a1, .inl (cI, 160, .inl (rN (inR (shF co (ix g1 + 1) cln tt) (ix g1 + 1) (fun i => clc (0 + i)) cln)))), (a2, .inl (cI, 160, .inl (rN (inR (shF ow (ix g1 + 1) cln tt) (ix g1 + 1) (fun _ => 2 ^ ed) cln)))), (a3, .inl (cI, 160, .inl (rN (inR (shF er (ix g1 + 1) cln tt) (ix g1 + 1) (fun _ => 0) cln)))), (a4, .inl (cI, 60, .inl (rN (ix2_u17)))), (a5, .inl (cI, 16, .inl (rN (up ba ed (bth ba (ow (ix g1))))))), (xc, .inr (1, [.ref xca, .int (iI ((cln : Nat) : Int))])), (xca, .inl (cI, 60, .inl (rN (clc))))] := hD
  refine W.eq (g2 := F0 m 20 ls [.int (iI ((ed : Nat) : Int))]) rfl ?_
  refine lv_istore_n (lv' := [(2, .int (iI ((ed : Nat) : Int))), (0, .ref xp), (1, .int (iI ((g1 + 1 : Nat) : Int)))]) hx hb dX4_insert_20 rfl hl (by decide) rfl (fun ls hl => ?_)
  refine lv_iload_n hx hb dX4_insert_21 rfl (lv_at hl 0 rfl) ?_
  refine r_if_lt (tgt := 33) hx hb (by omega) dX4_insert_22 (by decide) (fun c_1 => ?_) (fun c_1 => ?_)
  · skip
    refine lv_iload_n hx hb dX4_insert_33 rfl (lv_at hl 0 rfl) ?_
    exact r_iretX hx hb hr hlocks hP hD hS (ix2_u17) (rfl) (⟨by assumption, by assumption⟩) (by exfalso; omega) dX4_insert_34
  · skip
    refine lv_aload_n hx hb dX4_insert_25 rfl (lv_at hl 1 rfl) ?_
    refine va_get (D := D) (ci := 4) (v := .ref xc) (C := RX4) (T := TX4) (N := 7) hx hb hts nX4_insert_X4 hown hK hP 0 rfl rfl 0 (by decide) (hts _ kX4_insert_14) (fun _ h9 => h9) rfl dX4_insert_26 ?_
    refine callVX (n := 0) (As := []) (rest := []) (wc := [(xc, .inr (1, [.ref xca, .int (iI ((cln : Nat) : Int))])), (xca, .inl (cI, 60, .inl (rN (clc))))]) (wr := [(xp, .inr (4, [.ref xc, .ref xs, .ref h, .ref xq, .ref xl, .int (iI ((ag : Nat) : Int)), .int (iI ((di : Nat) : Int))])), (h, .inr (0, [.ref a1, .ref a2, .ref a3, .int (iI ((tt + cln : Nat) : Int)), .ref a4, .int (iI ((cnt (visb (inR (shF ow (ix g1 + 1) cln tt) (ix g1 + 1) (fun _ => 2 ^ ed) cln) (inR (shF er (ix g1 + 1) cln tt) (ix g1 + 1) (fun _ => 0) cln) (ac ||| 2 ^ ed)) (tt + cln) : Nat) : Int)), .ref a5, .int (iI ((ed + 1 : Nat) : Int)), .int (iI ((es : Nat) : Int)), .int (iI ((ac ||| 2 ^ ed : Nat) : Int)), .int (iI ((min cu (cnt (visb (inR (shF ow (ix g1 + 1) cln tt) (ix g1 + 1) (fun _ => 2 ^ ed) cln) (inR (shF er (ix g1 + 1) cln tt) (ix g1 + 1) (fun _ => 0) cln) (ac ||| 2 ^ ed)) (tt + cln)) : Nat) : Int))])), (a1, .inl (cI, 160, .inl (rN (inR (shF co (ix g1 + 1) cln tt) (ix g1 + 1) (fun i => clc (0 + i)) cln)))), (a2, .inl (cI, 160, .inl (rN (inR (shF ow (ix g1 + 1) cln tt) (ix g1 + 1) (fun _ => 2 ^ ed) cln)))), (a3, .inl (cI, 160, .inl (rN (inR (shF er (ix g1 + 1) cln tt) (ix g1 + 1) (fun _ => 0) cln)))), (a4, .inl (cI, 60, .inl (rN (ix2_u17)))), (a5, .inl (cI, 16, .inl (rN (up ba ed (bth ba (ow (ix g1)))))))]) (ws2 := fun u => [(xp, .inr (4, [.ref xc, .ref xs, .ref h, .ref xq, .ref xl, .int (iI ((ag : Nat) : Int)), .int (iI ((di : Nat) : Int))])), (h, .inr (0, [.ref a1, .ref a2, .ref a3, .int (iI ((tt + cln : Nat) : Int)), .ref a4, .int (iI ((cnt (visb (inR (shF ow (ix g1 + 1) cln tt) (ix g1 + 1) (fun _ => 2 ^ ed) cln) (inR (shF er (ix g1 + 1) cln tt) (ix g1 + 1) (fun _ => 0) cln) (ac ||| 2 ^ ed)) (tt + cln) : Nat) : Int)), .ref a5, .int (iI ((ed + 1 : Nat) : Int)), .int (iI ((es : Nat) : Int)), .int (iI ((ac ||| 2 ^ ed : Nat) : Int)), .int (iI ((min cu (cnt (visb (inR (shF ow (ix g1 + 1) cln tt) (ix g1 + 1) (fun _ => 2 ^ ed) cln) (inR (shF er (ix g1 + 1) cln tt) (ix g1 + 1) (fun _ => 0) cln) (ac ||| 2 ^ ed)) (tt + cln)) : Nat) : Int))])), (a1, .inl (cI, 160, .inl (rN (inR (shF co (ix g1 + 1) cln tt) (ix g1 + 1) (fun i => clc (0 + i)) cln)))), (a2, .inl (cI, 160, .inl (rN (inR (shF ow (ix g1 + 1) cln tt) (ix g1 + 1) (fun _ => 2 ^ ed) cln)))), (a3, .inl (cI, 160, .inl (rN (inR (shF er (ix g1 + 1) cln tt) (ix g1 + 1) (fun _ => 0) cln)))), (a4, .inl (cI, 60, .inl (rN (ix2_u17)))), (a5, .inl (cI, 16, .inl (rN (up ba ed (bth ba (ow (ix g1))))))), (xc, .inr (1, [.ref xca, .int (iI 0)])), (xca, .inl (cI, 60, .inl (rN (clc))))]) S hE hP hD hS hA (c_row_drop l D cI cB cZ cO H.size xc xca 60 clc cln (by first | assumption | (first | omega | assumption))) gX4_insert_X1_drop rfl ⟨rfl, rfl⟩ (by decide +kernel) ⟨Nat.le_of_ble_eq_true rfl, Nat.le_of_ble_eq_true rfl⟩ [7, 8] [0, 1, 2, 3, 4, 5, 6] [0, 1, 2, 3, 4, 5, 6, 7, 8] rfl (by decide) rfl (by decide) (by decide) (by decide) (fun u => rfl) 1 0 rfl rfl rfl hl.1 rfl (Nat.le_of_ble_eq_true rfl) dX4_insert_29 ⟨Nat.le_of_ble_eq_true rfl, Nat.le_of_ble_eq_true rfl⟩ (fun u u29p H locs hP hD hS => ?_)
    have hP : va_P D vwCl [(xp, .inr (4, [.ref xc, .ref xs, .ref h, .ref xq, .ref xl, .int (iI ((ag : Nat) : Int)), .int (iI ((di : Nat) : Int))])), (h, .inr (0, [.ref a1, .ref a2, .ref a3, .int (iI ((tt + cln : Nat) : Int)), .ref a4, .int (iI ((cnt (visb (inR (shF ow (ix g1 + 1) cln tt) (ix g1 + 1) (fun _ => 2 ^ ed) cln) (inR (shF er (ix g1 + 1) cln tt) (ix g1 + 1) (fun _ => 0) cln) (ac ||| 2 ^ ed)) (tt + cln) : Nat) : Int)), .ref a5, .int (iI ((ed + 1 : Nat) : Int)), .int (iI ((es : Nat) : Int)), .int (iI ((ac ||| 2 ^ ed : Nat) : Int)), .int (iI ((min cu (cnt (visb (inR (shF ow (ix g1 + 1) cln tt) (ix g1 + 1) (fun _ => 2 ^ ed) cln) (inR (shF er (ix g1 + 1) cln tt) (ix g1 + 1) (fun _ => 0) cln) (ac ||| 2 ^ ed)) (tt + cln)) : Nat) : Int))])), (a1, .inl (cI, 160, .inl (rN (inR (shF co (ix g1 + 1) cln tt) (ix g1 + 1) (fun i => clc (0 + i)) cln)))), (a2, .inl (cI, 160, .inl (rN (inR (shF ow (ix g1 + 1) cln tt) (ix g1 + 1) (fun _ => 2 ^ ed) cln)))), (a3, .inl (cI, 160, .inl (rN (inR (shF er (ix g1 + 1) cln tt) (ix g1 + 1) (fun _ => 0) cln)))), (a4, .inl (cI, 60, .inl (rN (ix2_u17)))), (a5, .inl (cI, 16, .inl (rN (up ba ed (bth ba (ow (ix g1))))))), (xc, .inr (1, [.ref xca, .int (iI 0)])), (xca, .inl (cI, 60, .inl (rN (clc))))] H := hP
    have hD : va_D A [(xp, .inr (4, [.ref xc, .ref xs, .ref h, .ref xq, .ref xl, .int (iI ((ag : Nat) : Int)), .int (iI ((di : Nat) : Int))])), (h, .inr (0, [.ref a1, .ref a2, .ref a3, .int (iI ((tt + cln : Nat) : Int)), .ref a4, .int (iI ((cnt (visb (inR (shF ow (ix g1 + 1) cln tt) (ix g1 + 1) (fun _ => 2 ^ ed) cln) (inR (shF er (ix g1 + 1) cln tt) (ix g1 + 1) (fun _ => 0) cln) (ac ||| 2 ^ ed)) (tt + cln) : Nat) : Int)), .ref a5, .int (iI ((ed + 1 : Nat) : Int)), .int (iI ((es : Nat) : Int)), .int (iI ((ac ||| 2 ^ ed : Nat) : Int)), .int (iI ((min cu (cnt (visb (inR (shF ow (ix g1 + 1) cln tt) (ix g1 + 1) (fun _ => 2 ^ ed) cln) (inR (shF er (ix g1 + 1) cln tt) (ix g1 + 1) (fun _ => 0) cln) (ac ||| 2 ^ ed)) (tt + cln)) : Nat) : Int))])), (a1, .inl (cI, 160, .inl (rN (inR (shF co (ix g1 + 1) cln tt) (ix g1 + 1) (fun i => clc (0 + i)) cln)))), (a2, .inl (cI, 160, .inl (rN (inR (shF ow (ix g1 + 1) cln tt) (ix g1 + 1) (fun _ => 2 ^ ed) cln)))), (a3, .inl (cI, 160, .inl (rN (inR (shF er (ix g1 + 1) cln tt) (ix g1 + 1) (fun _ => 0) cln)))), (a4, .inl (cI, 60, .inl (rN (ix2_u17)))), (a5, .inl (cI, 16, .inl (rN (up ba ed (bth ba (ow (ix g1))))))), (xc, .inr (1, [.ref xca, .int (iI 0)])), (xca, .inl (cI, 60, .inl (rN (clc))))] := hD
    refine W.eq (g2 := F0 m 32 ls [.int (iI ((cln : Nat) : Int))]) rfl ?_
    refine lv_pop hx hb dX4_insert_32 rfl ?_
    refine lv_iload_n hx hb dX4_insert_33 rfl (lv_at hl 0 rfl) ?_
    exact r_iretX hx hb hr hlocks hP hD hS (ix2_u17) (rfl) (⟨by assumption, by assumption⟩) rfl dX4_insert_34

set_option maxHeartbeats 4000000 in
set_option maxRecDepth 100000 in
theorem p_insert_0 (l : Launch) (D : va_G) (cI cB cZ cO : ClassId) (sz : Nat) (xp : Nat) (xc : Nat) (xs : Nat) (xq : Nat) (xl : Nat) (ag : Nat) (di : Nat) (h : Nat) (a1 : Nat) (a2 : Nat) (a3 : Nat) (a4 : Nat) (a5 : Nat) (tt : Nat) (ln : Nat) (ed : Nat) (es : Nat) (ac : Nat) (cu : Nat) (co : Nat → Nat) (ow : Nat → Nat) (er : Nat → Nat) (ix : Nat → Nat) (ba : Nat → Nat) (xca : Nat) (cln : Nat) (clc : Nat → Nat) (hln : ln ≤ 60) (htt : tt ≤ 160) (hac : ac < 65536) (hix : ∀ j, ix j < 160) (hba : ∀ k, ba k < 65536) (hcu : cu ≤ 60) (how : ∀ k, ow k < 65536) (her : ∀ k, er k < 65536) (hoe : ∀ j, j < ln → ow (ix j) = 0 ∨ popc (ow (ix j) - 1) < ed) (hc0 : 1 ≤ cln) (hc1 : cln ≤ 8) (hed : ed < 16) (hlc : ln + cln ≤ 60) (htc : tt + cln ≤ 160) (hcap : cnt (visb (inR (shF ow (0) cln tt) (0) (fun _ => 2 ^ ed) cln) (inR (shF er (0) cln tt) (0) (fun _ => 0) cln) (ac ||| 2 ^ ed)) (tt + cln) ≤ 60) (hcl : cln ≤ 60) : Met l yX4_insert wsX4_insert ({ frames := 4, cells := 0, slots := 0, locals := 90 }) (va_Pc [.ref xp, .int (iI 0)] (RW D cI cB cZ cO sz [(xp, .inr (4, [.ref xc, .ref xs, .ref h, .ref xq, .ref xl, .int (iI ((ag : Nat) : Int)), .int (iI ((di : Nat) : Int))])), (h, .inr (0, [.ref a1, .ref a2, .ref a3, .int (iI ((tt : Nat) : Int)), .ref a4, .int (iI ((ln : Nat) : Int)), .ref a5, .int (iI ((ed : Nat) : Int)), .int (iI ((es : Nat) : Int)), .int (iI ((ac : Nat) : Int)), .int (iI ((cu : Nat) : Int))])), (a1, .inl (cI, 160, .inl (rN (co)))), (a2, .inl (cI, 160, .inl (rN (ow)))), (a3, .inl (cI, 160, .inl (rN (er)))), (a4, .inl (cI, 60, .inl (rN (ix)))), (a5, .inl (cI, 16, .inl (rN (ba)))), (xc, .inr (1, [.ref xca, .int (iI ((cln : Nat) : Int))])), (xca, .inl (cI, 60, .inl (rN (clc))))])) (QX D (S := (Nat → Nat)) (fun u => some (.int (iI ((ed : Nat) : Int)))) (fun u => (∀ j, u j < 160) ∧ (ixOK (visb (inR (shF ow (0) cln tt) (0) (fun _ => 2 ^ ed) cln) (inR (shF er (0) cln tt) (0) (fun _ => 0) cln) (ac ||| 2 ^ ed)) (tt + cln) u)) (fun u => [(xp, .inr (4, [.ref xc, .ref xs, .ref h, .ref xq, .ref xl, .int (iI ((ag : Nat) : Int)), .int (iI ((di : Nat) : Int))])), (h, .inr (0, [.ref a1, .ref a2, .ref a3, .int (iI ((tt + cln : Nat) : Int)), .ref a4, .int (iI ((cnt (visb (inR (shF ow (0) cln tt) (0) (fun _ => 2 ^ ed) cln) (inR (shF er (0) cln tt) (0) (fun _ => 0) cln) (ac ||| 2 ^ ed)) (tt + cln) : Nat) : Int)), .ref a5, .int (iI ((ed + 1 : Nat) : Int)), .int (iI ((es : Nat) : Int)), .int (iI ((ac ||| 2 ^ ed : Nat) : Int)), .int (iI ((min cu (cnt (visb (inR (shF ow (0) cln tt) (0) (fun _ => 2 ^ ed) cln) (inR (shF er (0) cln tt) (0) (fun _ => 0) cln) (ac ||| 2 ^ ed)) (tt + cln)) : Nat) : Int))])), (a1, .inl (cI, 160, .inl (rN (inR (shF co (0) cln tt) (0) (fun i => clc (0 + i)) cln)))), (a2, .inl (cI, 160, .inl (rN (inR (shF ow (0) cln tt) (0) (fun _ => 2 ^ ed) cln)))), (a3, .inl (cI, 160, .inl (rN (inR (shF er (0) cln tt) (0) (fun _ => 0) cln)))), (a4, .inl (cI, 60, .inl (rN (u)))), (a5, .inl (cI, 16, .inl (rN (up ba ed (0))))), (xc, .inr (1, [.ref xca, .int (iI 0)])), (xca, .inl (cI, 60, .inl (rN (clc))))]) (va_A [(xp, .inr (4, [.ref xc, .ref xs, .ref h, .ref xq, .ref xl, .int (iI ((ag : Nat) : Int)), .int (iI ((di : Nat) : Int))])), (h, .inr (0, [.ref a1, .ref a2, .ref a3, .int (iI ((tt : Nat) : Int)), .ref a4, .int (iI ((ln : Nat) : Int)), .ref a5, .int (iI ((ed : Nat) : Int)), .int (iI ((es : Nat) : Int)), .int (iI ((ac : Nat) : Int)), .int (iI ((cu : Nat) : Int))])), (a1, .inl (cI, 160, .inl (rN (co)))), (a2, .inl (cI, 160, .inl (rN (ow)))), (a3, .inl (cI, 160, .inl (rN (er)))), (a4, .inl (cI, 60, .inl (rN (ix)))), (a5, .inl (cI, 16, .inl (rN (ba)))), (xc, .inr (1, [.ref xca, .int (iI ((cln : Nat) : Int))])), (xca, .inl (cI, 60, .inl (rN (clc))))] sz)) 0 0 (va_A [(xp, .inr (4, [.ref xc, .ref xs, .ref h, .ref xq, .ref xl, .int (iI ((ag : Nat) : Int)), .int (iI ((di : Nat) : Int))])), (h, .inr (0, [.ref a1, .ref a2, .ref a3, .int (iI ((tt : Nat) : Int)), .ref a4, .int (iI ((ln : Nat) : Int)), .ref a5, .int (iI ((ed : Nat) : Int)), .int (iI ((es : Nat) : Int)), .int (iI ((ac : Nat) : Int)), .int (iI ((cu : Nat) : Int))])), (a1, .inl (cI, 160, .inl (rN (co)))), (a2, .inl (cI, 160, .inl (rN (ow)))), (a3, .inl (cI, 160, .inl (rN (er)))), (a4, .inl (cI, 60, .inl (rN (ix)))), (a5, .inl (cI, 16, .inl (rN (ba)))), (xc, .inr (1, [.ref xca, .int (iI ((cln : Nat) : Int))])), (xca, .inl (cI, 60, .inl (rN (clc))))] sz) := by
  refine startW (cc := cX4_insert) (maxL := 3) (ret := (some .int)) (by decide) rfl (Nat.le_of_ble_eq_true rfl) ?_
  intro p e s m below meth c S hr hlocks hE hP A hD hA hS ls hl
  have hx := S.1
  have hb := S.2.1
  have hown := S.2.2.2.1
  have hts := S.2.2.2.2
  have hK := hE.1
  have hl : lv_has ls 3 [(0, .ref xp), (1, .int (iI 0))] := hl
  refine lv_aload_n hx hb dX4_insert_0 rfl (lv_at hl 0 rfl) ?_
  refine va_get (D := D) (ci := 4) (v := .ref h) (C := RX4) (T := TX4) (N := 7) hx hb hts nX4_insert_X4 hown hK hP 0 rfl rfl 2 (by decide) (hts _ kX4_insert_28) (fun _ h9 => h9) rfl dX4_insert_1 ?_
  refine lv_iload_n hx hb dX4_insert_4 rfl (lv_at hl 1 rfl) ?_
  refine lv_aload_n hx hb dX4_insert_5 rfl (lv_at hl 0 rfl) ?_
  refine va_get (D := D) (ci := 4) (v := .ref xc) (C := RX4) (T := TX4) (N := 7) hx hb hts nX4_insert_X4 hown hK hP 0 rfl rfl 0 (by decide) (hts _ kX4_insert_14) (fun _ h9 => h9) rfl dX4_insert_6 ?_
  refine r_iconst hx hb dX4_insert_9 ?_
  refine lv_aload_n hx hb dX4_insert_10 rfl (lv_at hl 0 rfl) ?_
  refine va_get (D := D) (ci := 4) (v := .ref xc) (C := RX4) (T := TX4) (N := 7) hx hb hts nX4_insert_X4 hown hK hP 0 rfl rfl 0 (by decide) (hts _ kX4_insert_14) (fun _ h9 => h9) rfl dX4_insert_11 ?_
  refine va_getN (D := D) (ci := 1) (v := .int (iI ((cln : Nat) : Int))) (C := RX1) (T := TX1) (N := 2) hx hb hts nX4_insert_X1 hown hK hP 7 rfl rfl 1 (by decide) (va_Nw.use rfl (hE.2.f 1 rfl)) (fun _ h9 => h9) rfl dX4_insert_14 ?_
  refine callVX (n := 4) (As := [.int (iI 0), .ref xc, .int (iI 0), .int (iI ((cln : Nat) : Int))]) (rest := []) (wc := [(h, .inr (0, [.ref a1, .ref a2, .ref a3, .int (iI ((tt : Nat) : Int)), .ref a4, .int (iI ((ln : Nat) : Int)), .ref a5, .int (iI ((ed : Nat) : Int)), .int (iI ((es : Nat) : Int)), .int (iI ((ac : Nat) : Int)), .int (iI ((cu : Nat) : Int))])), (a1, .inl (cI, 160, .inl (rN (co)))), (a2, .inl (cI, 160, .inl (rN (ow)))), (a3, .inl (cI, 160, .inl (rN (er)))), (a4, .inl (cI, 60, .inl (rN (ix)))), (a5, .inl (cI, 16, .inl (rN (ba)))), (xc, .inr (1, [.ref xca, .int (iI ((cln : Nat) : Int))])), (xca, .inl (cI, 60, .inl (rN (clc))))]) (wr := [(xp, .inr (4, [.ref xc, .ref xs, .ref h, .ref xq, .ref xl, .int (iI ((ag : Nat) : Int)), .int (iI ((di : Nat) : Int))]))]) (ws2 := fun u => [(xp, .inr (4, [.ref xc, .ref xs, .ref h, .ref xq, .ref xl, .int (iI ((ag : Nat) : Int)), .int (iI ((di : Nat) : Int))])), (h, .inr (0, [.ref a1, .ref a2, .ref a3, .int (iI ((tt + cln : Nat) : Int)), .ref a4, .int (iI ((cnt (visb (inR (shF ow (0) cln tt) (0) (fun _ => 2 ^ ed) cln) (inR (shF er (0) cln tt) (0) (fun _ => 0) cln) (ac ||| 2 ^ ed)) (tt + cln) : Nat) : Int)), .ref a5, .int (iI ((ed + 1 : Nat) : Int)), .int (iI ((es : Nat) : Int)), .int (iI ((ac ||| 2 ^ ed : Nat) : Int)), .int (iI ((min cu (cnt (visb (inR (shF ow (0) cln tt) (0) (fun _ => 2 ^ ed) cln) (inR (shF er (0) cln tt) (0) (fun _ => 0) cln) (ac ||| 2 ^ ed)) (tt + cln)) : Nat) : Int))])), (a1, .inl (cI, 160, .inl (rN (inR (shF co (0) cln tt) (0) (fun i => clc (0 + i)) cln)))), (a2, .inl (cI, 160, .inl (rN (inR (shF ow (0) cln tt) (0) (fun _ => 2 ^ ed) cln)))), (a3, .inl (cI, 160, .inl (rN (inR (shF er (0) cln tt) (0) (fun _ => 0) cln)))), (a4, .inl (cI, 60, .inl (rN (u)))), (a5, .inl (cI, 16, .inl (rN (up ba ed (0))))), (xc, .inr (1, [.ref xca, .int (iI ((cln : Nat) : Int))])), (xca, .inl (cI, 60, .inl (rN (clc))))]) S hE hP hD hS hA (c_addIns_0 l D cI cB cZ cO s.heap.size h a1 a2 a3 a4 a5 tt ln ed es ac cu co ow er ix ba xc xca 60 cln clc 0 cln (by first | assumption | (first | omega | assumption)) (by first | assumption | (first | omega | assumption)) (by first | assumption | (first | omega | assumption)) (by first | assumption | (first | omega | assumption)) (by first | assumption | (first | omega | assumption)) (by first | assumption | (first | omega | assumption)) (by first | assumption | (first | omega | assumption)) (by first | assumption | (first | omega | assumption)) (by first | assumption | (first | omega | assumption)) (by first | assumption | (first | omega | assumption)) (by first | assumption | (first | omega | assumption)) (by first | assumption | (first | omega | assumption)) (by first | assumption | (first | omega | assumption)) (by first | assumption | (first | omega | assumption)) (by first | assumption | (first | omega | assumption)) (by first | assumption | (first | omega | assumption)) (by first | assumption | (first | omega | assumption)) (by first | assumption | (first | omega | assumption))) gX4_insert_X0_addInsertion rfl ⟨rfl, rfl⟩ (by decide +kernel) ⟨Nat.le_of_ble_eq_true rfl, Nat.le_of_ble_eq_true rfl⟩ [1, 2, 3, 4, 5, 6, 7, 8] [0] [0, 1, 2, 3, 4, 5, 6, 7, 8] rfl (by decide) rfl (by decide) (by decide) (by decide) (fun u => rfl) 0 0 rfl rfl rfl hl.1 rfl (Nat.le_of_ble_eq_true rfl) dX4_insert_17 ⟨Nat.le_of_ble_eq_true rfl, Nat.le_of_ble_eq_true rfl⟩ (fun u u17p H locs hP hD hS => ?_)
  generalize u = ix2_u17 at u17p hP hD ⊢
  obtain ⟨hix2_u17, hok_u17⟩ := u17p
  have hix2_u17 : ∀ j, ix2_u17 j < 160 := hix2_u17
  have hok_u17 : ixOK (visb (inR (shF ow (0) cln tt) (0) (fun _ => 2 ^ ed) cln) (inR (shF er (0) cln tt) (0) (fun _ => 0) cln) (ac ||| 2 ^ ed)) (tt + cln) ix2_u17 := hok_u17
  have hP : va_P D vwCl [(xp, .inr (4, [.ref xc, .ref xs, .ref h, .ref xq, .ref xl, .int (iI ((ag : Nat) : Int)), .int (iI ((di : Nat) : Int))])), (h, .inr (0, [.ref a1, .ref a2, .ref a3, .int (iI ((tt + cln : Nat) : Int)), .ref a4, .int (iI ((cnt (visb (inR (shF ow (0) cln tt) (0) (fun _ => 2 ^ ed) cln) (inR (shF er (0) cln tt) (0) (fun _ => 0) cln) (ac ||| 2 ^ ed)) (tt + cln) : Nat) : Int)), .ref a5, .int (iI ((ed + 1 : Nat) : Int)), .int (iI ((es : Nat) : Int)), .int (iI ((ac ||| 2 ^ ed : Nat) : Int)), .int (iI ((min cu (cnt (visb (inR (shF ow (0) cln tt) (0) (fun _ => 2 ^ ed) cln) (inR (shF er (0) cln tt) (0) (fun _ => 0) cln) (ac ||| 2 ^ ed)) (tt + cln)) : Nat) : Int))])), (a1, .inl (cI, 160, .inl (rN (inR (shF co (0) cln tt) (0) (fun i => clc (0 + i)) cln)))), (a2, .inl (cI, 160, .inl (rN (inR (shF ow (0) cln tt) (0) (fun _ => 2 ^ ed) cln)))), (a3, .inl (cI, 160, .inl (rN (inR (shF er (0) cln tt) (0) (fun _ => 0) cln)))), (a4, .inl (cI, 60, .inl (rN (ix2_u17)))), (a5, .inl (cI, 16, .inl (rN (up ba ed (0))))), (xc, .inr (1, [.ref xca, .int (iI ((cln : Nat) : Int))])), (xca, .inl (cI, 60, .inl (rN (clc))))] H := hP
  have hD : va_D A [(xp, .inr (4, [.ref xc, .ref xs, .ref h, .ref xq, .ref xl, .int (iI ((ag : Nat) : Int)), .int (iI ((di : Nat) : Int))])), (h, .inr (0, [.ref a1, .ref a2, .ref a3, .int (iI ((tt + cln : Nat) : Int)), .ref a4, .int (iI ((cnt (visb (inR (shF ow (0) cln tt) (0) (fun _ => 2 ^ ed) cln) (inR (shF er (0) cln tt) (0) (fun _ => 0) cln) (ac ||| 2 ^ ed)) (tt + cln) : Nat) : Int)), .ref a5, .int (iI ((ed + 1 : Nat) : Int)), .int (iI ((es : Nat) : Int)), .int (iI ((ac ||| 2 ^ ed : Nat) : Int)), .int (iI ((min cu (cnt (visb (inR (shF ow (0) cln tt) (0) (fun _ => 2 ^ ed) cln) (inR (shF er (0) cln tt) (0) (fun _ => 0) cln) (ac ||| 2 ^ ed)) (tt + cln)) : Nat) : Int))])), (a1, .inl (cI, 160, .inl (rN (inR (shF co (0) cln tt) (0) (fun i => clc (0 + i)) cln)))), (a2, .inl (cI, 160, .inl (rN (inR (shF ow (0) cln tt) (0) (fun _ => 2 ^ ed) cln)))), (a3, .inl (cI, 160, .inl (rN (inR (shF er (0) cln tt) (0) (fun _ => 0) cln)))), (a4, .inl (cI, 60, .inl (rN (ix2_u17)))), (a5, .inl (cI, 16, .inl (rN (up ba ed (0))))), (xc, .inr (1, [.ref xca, .int (iI ((cln : Nat) : Int))])), (xca, .inl (cI, 60, .inl (rN (clc))))] := hD
  refine W.eq (g2 := F0 m 20 ls [.int (iI ((ed : Nat) : Int))]) rfl ?_
  refine lv_istore_n (lv' := [(2, .int (iI ((ed : Nat) : Int))), (0, .ref xp), (1, .int (iI 0))]) hx hb dX4_insert_20 rfl hl (by decide) rfl (fun ls hl => ?_)
  refine lv_iload_n hx hb dX4_insert_21 rfl (lv_at hl 0 rfl) ?_
  refine r_if_lt (tgt := 33) hx hb (by omega) dX4_insert_22 (by decide) (fun c_1 => ?_) (fun c_1 => ?_)
  · skip
    refine lv_iload_n hx hb dX4_insert_33 rfl (lv_at hl 0 rfl) ?_
    exact r_iretX hx hb hr hlocks hP hD hS (ix2_u17) (rfl) (⟨by assumption, by assumption⟩) (by exfalso; omega) dX4_insert_34
  · skip
    refine lv_aload_n hx hb dX4_insert_25 rfl (lv_at hl 1 rfl) ?_
    refine va_get (D := D) (ci := 4) (v := .ref xc) (C := RX4) (T := TX4) (N := 7) hx hb hts nX4_insert_X4 hown hK hP 0 rfl rfl 0 (by decide) (hts _ kX4_insert_14) (fun _ h9 => h9) rfl dX4_insert_26 ?_
    refine callVX (n := 0) (As := []) (rest := []) (wc := [(xc, .inr (1, [.ref xca, .int (iI ((cln : Nat) : Int))])), (xca, .inl (cI, 60, .inl (rN (clc))))]) (wr := [(xp, .inr (4, [.ref xc, .ref xs, .ref h, .ref xq, .ref xl, .int (iI ((ag : Nat) : Int)), .int (iI ((di : Nat) : Int))])), (h, .inr (0, [.ref a1, .ref a2, .ref a3, .int (iI ((tt + cln : Nat) : Int)), .ref a4, .int (iI ((cnt (visb (inR (shF ow (0) cln tt) (0) (fun _ => 2 ^ ed) cln) (inR (shF er (0) cln tt) (0) (fun _ => 0) cln) (ac ||| 2 ^ ed)) (tt + cln) : Nat) : Int)), .ref a5, .int (iI ((ed + 1 : Nat) : Int)), .int (iI ((es : Nat) : Int)), .int (iI ((ac ||| 2 ^ ed : Nat) : Int)), .int (iI ((min cu (cnt (visb (inR (shF ow (0) cln tt) (0) (fun _ => 2 ^ ed) cln) (inR (shF er (0) cln tt) (0) (fun _ => 0) cln) (ac ||| 2 ^ ed)) (tt + cln)) : Nat) : Int))])), (a1, .inl (cI, 160, .inl (rN (inR (shF co (0) cln tt) (0) (fun i => clc (0 + i)) cln)))), (a2, .inl (cI, 160, .inl (rN (inR (shF ow (0) cln tt) (0) (fun _ => 2 ^ ed) cln)))), (a3, .inl (cI, 160, .inl (rN (inR (shF er (0) cln tt) (0) (fun _ => 0) cln)))), (a4, .inl (cI, 60, .inl (rN (ix2_u17)))), (a5, .inl (cI, 16, .inl (rN (up ba ed (0)))))]) (ws2 := fun u => [(xp, .inr (4, [.ref xc, .ref xs, .ref h, .ref xq, .ref xl, .int (iI ((ag : Nat) : Int)), .int (iI ((di : Nat) : Int))])), (h, .inr (0, [.ref a1, .ref a2, .ref a3, .int (iI ((tt + cln : Nat) : Int)), .ref a4, .int (iI ((cnt (visb (inR (shF ow (0) cln tt) (0) (fun _ => 2 ^ ed) cln) (inR (shF er (0) cln tt) (0) (fun _ => 0) cln) (ac ||| 2 ^ ed)) (tt + cln) : Nat) : Int)), .ref a5, .int (iI ((ed + 1 : Nat) : Int)), .int (iI ((es : Nat) : Int)), .int (iI ((ac ||| 2 ^ ed : Nat) : Int)), .int (iI ((min cu (cnt (visb (inR (shF ow (0) cln tt) (0) (fun _ => 2 ^ ed) cln) (inR (shF er (0) cln tt) (0) (fun _ => 0) cln) (ac ||| 2 ^ ed)) (tt + cln)) : Nat) : Int))])), (a1, .inl (cI, 160, .inl (rN (inR (shF co (0) cln tt) (0) (fun i => clc (0 + i)) cln)))), (a2, .inl (cI, 160, .inl (rN (inR (shF ow (0) cln tt) (0) (fun _ => 2 ^ ed) cln)))), (a3, .inl (cI, 160, .inl (rN (inR (shF er (0) cln tt) (0) (fun _ => 0) cln)))), (a4, .inl (cI, 60, .inl (rN (ix2_u17)))), (a5, .inl (cI, 16, .inl (rN (up ba ed (0))))), (xc, .inr (1, [.ref xca, .int (iI 0)])), (xca, .inl (cI, 60, .inl (rN (clc))))]) S hE hP hD hS hA (c_row_drop l D cI cB cZ cO H.size xc xca 60 clc cln (by first | assumption | (first | omega | assumption))) gX4_insert_X1_drop rfl ⟨rfl, rfl⟩ (by decide +kernel) ⟨Nat.le_of_ble_eq_true rfl, Nat.le_of_ble_eq_true rfl⟩ [7, 8] [0, 1, 2, 3, 4, 5, 6] [0, 1, 2, 3, 4, 5, 6, 7, 8] rfl (by decide) rfl (by decide) (by decide) (by decide) (fun u => rfl) 1 0 rfl rfl rfl hl.1 rfl (Nat.le_of_ble_eq_true rfl) dX4_insert_29 ⟨Nat.le_of_ble_eq_true rfl, Nat.le_of_ble_eq_true rfl⟩ (fun u u29p H locs hP hD hS => ?_)
    have hP : va_P D vwCl [(xp, .inr (4, [.ref xc, .ref xs, .ref h, .ref xq, .ref xl, .int (iI ((ag : Nat) : Int)), .int (iI ((di : Nat) : Int))])), (h, .inr (0, [.ref a1, .ref a2, .ref a3, .int (iI ((tt + cln : Nat) : Int)), .ref a4, .int (iI ((cnt (visb (inR (shF ow (0) cln tt) (0) (fun _ => 2 ^ ed) cln) (inR (shF er (0) cln tt) (0) (fun _ => 0) cln) (ac ||| 2 ^ ed)) (tt + cln) : Nat) : Int)), .ref a5, .int (iI ((ed + 1 : Nat) : Int)), .int (iI ((es : Nat) : Int)), .int (iI ((ac ||| 2 ^ ed : Nat) : Int)), .int (iI ((min cu (cnt (visb (inR (shF ow (0) cln tt) (0) (fun _ => 2 ^ ed) cln) (inR (shF er (0) cln tt) (0) (fun _ => 0) cln) (ac ||| 2 ^ ed)) (tt + cln)) : Nat) : Int))])), (a1, .inl (cI, 160, .inl (rN (inR (shF co (0) cln tt) (0) (fun i => clc (0 + i)) cln)))), (a2, .inl (cI, 160, .inl (rN (inR (shF ow (0) cln tt) (0) (fun _ => 2 ^ ed) cln)))), (a3, .inl (cI, 160, .inl (rN (inR (shF er (0) cln tt) (0) (fun _ => 0) cln)))), (a4, .inl (cI, 60, .inl (rN (ix2_u17)))), (a5, .inl (cI, 16, .inl (rN (up ba ed (0))))), (xc, .inr (1, [.ref xca, .int (iI 0)])), (xca, .inl (cI, 60, .inl (rN (clc))))] H := hP
    have hD : va_D A [(xp, .inr (4, [.ref xc, .ref xs, .ref h, .ref xq, .ref xl, .int (iI ((ag : Nat) : Int)), .int (iI ((di : Nat) : Int))])), (h, .inr (0, [.ref a1, .ref a2, .ref a3, .int (iI ((tt + cln : Nat) : Int)), .ref a4, .int (iI ((cnt (visb (inR (shF ow (0) cln tt) (0) (fun _ => 2 ^ ed) cln) (inR (shF er (0) cln tt) (0) (fun _ => 0) cln) (ac ||| 2 ^ ed)) (tt + cln) : Nat) : Int)), .ref a5, .int (iI ((ed + 1 : Nat) : Int)), .int (iI ((es : Nat) : Int)), .int (iI ((ac ||| 2 ^ ed : Nat) : Int)), .int (iI ((min cu (cnt (visb (inR (shF ow (0) cln tt) (0) (fun _ => 2 ^ ed) cln) (inR (shF er (0) cln tt) (0) (fun _ => 0) cln) (ac ||| 2 ^ ed)) (tt + cln)) : Nat) : Int))])), (a1, .inl (cI, 160, .inl (rN (inR (shF co (0) cln tt) (0) (fun i => clc (0 + i)) cln)))), (a2, .inl (cI, 160, .inl (rN (inR (shF ow (0) cln tt) (0) (fun _ => 2 ^ ed) cln)))), (a3, .inl (cI, 160, .inl (rN (inR (shF er (0) cln tt) (0) (fun _ => 0) cln)))), (a4, .inl (cI, 60, .inl (rN (ix2_u17)))), (a5, .inl (cI, 16, .inl (rN (up ba ed (0))))), (xc, .inr (1, [.ref xca, .int (iI 0)])), (xca, .inl (cI, 60, .inl (rN (clc))))] := hD
    refine W.eq (g2 := F0 m 32 ls [.int (iI ((cln : Nat) : Int))]) rfl ?_
    refine lv_pop hx hb dX4_insert_32 rfl ?_
    refine lv_iload_n hx hb dX4_insert_33 rfl (lv_at hl 0 rfl) ?_
    exact r_iretX hx hb hr hlocks hP hD hS (ix2_u17) (rfl) (⟨by assumption, by assumption⟩) rfl dX4_insert_34

theorem kX4_erase_28 : Cond.fieldLink RX4 28 "PricedUndo" "buffer" "LPricedUndo$Buffer;" ∈ wsX4_erase := by decide +kernel
theorem nX4_erase_X4 : ∀ w ∈ u_ws RX4 TX4 7, w ∈ wsX4_erase := by decide +kernel
set_option maxHeartbeats 4000000 in
set_option maxRecDepth 100000 in
theorem p_erase_bad (l : Launch) (D : va_G) (cI cB cZ cO : ClassId) (xp : Nat) (xc : Nat) (xs : Nat) (xq : Nat) (xl : Nat) (ag : Nat) (di : Nat) (h : Nat) (a1 : Nat) (a2 : Nat) (a3 : Nat) (a4 : Nat) (a5 : Nat) (tt : Nat) (ln : Nat) (ed : Nat) (es : Nat) (ac : Nat) (cu : Nat) (x : Int) (y : Int) (hln : ln ≤ 60) (rx : rg x) (ry : rg y) (hbad : ¬ (0 ≤ x ∧ x < y ∧ y ≤ (ln : Int))) : Met l yX4_erase wsX4_erase ({ frames := 2, cells := 0, slots := 0, locals := 45 }) (va_Pc [.ref xp, .int (iI (x)), .int (iI (y))] (RO D cI cB cZ cO [(xp, .inr (4, [.ref xc, .ref xs, .ref h, .ref xq, .ref xl, .int (iI ((ag : Nat) : Int)), .int (iI ((di : Nat) : Int))])), (h, .inr (0, [.ref a1, .ref a2, .ref a3, .int (iI ((tt : Nat) : Int)), .ref a4, .int (iI ((ln : Nat) : Int)), .ref a5, .int (iI ((ed : Nat) : Int)), .int (iI ((es : Nat) : Int)), .int (iI ((ac : Nat) : Int)), .int (iI ((cu : Nat) : Int))]))])) (QO (-1)) 0 0 (fun _ => False) := by
  refine startO (cc := cX4_erase) (maxL := 3) (ret := (some .int)) (by decide) rfl (Nat.le_of_ble_eq_true rfl) ?_
  intro p e s m below meth c S hr hlocks hE hP ls hl
  have hx := S.1
  have hb := S.2.1
  have hown := S.2.2.2.1
  have hts := S.2.2.2.2
  have hK := hE.1
  have hl : lv_has ls 3 [(0, .ref xp), (1, .int (iI (x))), (2, .int (iI (y)))] := hl
  refine lv_aload_n hx hb dX4_erase_0 rfl (lv_at hl 0 rfl) ?_
  refine va_get (D := D) (ci := 4) (v := .ref h) (C := RX4) (T := TX4) (N := 7) hx hb hts nX4_erase_X4 hown hK hP 0 rfl rfl 2 (by decide) (hts _ kX4_erase_28) (fun _ h9 => h9) rfl dX4_erase_1 ?_
  refine lv_iload_n hx hb dX4_erase_4 rfl (lv_at hl 1 rfl) ?_
  refine lv_iload_n hx hb dX4_erase_5 rfl (lv_at hl 2 rfl) ?_
  refine callVO (n := 2) (As := [.int (iI (x)), .int (iI (y))]) (rest := []) (wc := [(h, .inr (0, [.ref a1, .ref a2, .ref a3, .int (iI ((tt : Nat) : Int)), .ref a4, .int (iI ((ln : Nat) : Int)), .ref a5, .int (iI ((ed : Nat) : Int)), .int (iI ((es : Nat) : Int)), .int (iI ((ac : Nat) : Int)), .int (iI ((cu : Nat) : Int))]))]) S (c_addErasure_bad l D cI cB cZ cO h a1 a2 a3 a4 a5 tt ln ed es ac cu x y (by first | assumption | (omega)) (by first | assumption | (omega)) (by first | assumption | (omega)) (by first | assumption | (omega))) gX4_erase_X0_addErasure rfl ⟨rfl, rfl⟩ (by decide +kernel) ⟨Nat.le_of_ble_eq_true rfl, Nat.le_of_ble_eq_true rfl⟩ hE hP [1] rfl 0 0 rfl rfl rfl hl.1 rfl (Nat.le_of_ble_eq_true rfl) dX4_erase_6 ⟨Nat.le_of_ble_eq_true rfl, Nat.le_of_ble_eq_true rfl⟩ ?_
  exact r_iretO hx hb hr hlocks (rfl) dX4_erase_9

set_option maxHeartbeats 4000000 in
set_option maxRecDepth 100000 in
theorem p_erase_full (l : Launch) (D : va_G) (cI cB cZ cO : ClassId) (xp : Nat) (xc : Nat) (xs : Nat) (xq : Nat) (xl : Nat) (ag : Nat) (di : Nat) (h : Nat) (a1 : Nat) (a2 : Nat) (a3 : Nat) (a4 : Nat) (a5 : Nat) (tt : Nat) (ln : Nat) (ed : Nat) (es : Nat) (ac : Nat) (cu : Nat) (x : Int) (y : Int) (hln : ln ≤ 60) (rx : rg x) (ry : rg y) (hgood : 0 ≤ x ∧ x < y ∧ y ≤ (ln : Int)) (hed : ed = 16) : Met l yX4_erase wsX4_erase ({ frames := 2, cells := 0, slots := 0, locals := 45 }) (va_Pc [.ref xp, .int (iI (x)), .int (iI (y))] (RO D cI cB cZ cO [(xp, .inr (4, [.ref xc, .ref xs, .ref h, .ref xq, .ref xl, .int (iI ((ag : Nat) : Int)), .int (iI ((di : Nat) : Int))])), (h, .inr (0, [.ref a1, .ref a2, .ref a3, .int (iI ((tt : Nat) : Int)), .ref a4, .int (iI ((ln : Nat) : Int)), .ref a5, .int (iI ((ed : Nat) : Int)), .int (iI ((es : Nat) : Int)), .int (iI ((ac : Nat) : Int)), .int (iI ((cu : Nat) : Int))]))])) (QO (-3)) 0 0 (fun _ => False) := by
  refine startO (cc := cX4_erase) (maxL := 3) (ret := (some .int)) (by decide) rfl (Nat.le_of_ble_eq_true rfl) ?_
  intro p e s m below meth c S hr hlocks hE hP ls hl
  have hx := S.1
  have hb := S.2.1
  have hown := S.2.2.2.1
  have hts := S.2.2.2.2
  have hK := hE.1
  have hl : lv_has ls 3 [(0, .ref xp), (1, .int (iI (x))), (2, .int (iI (y)))] := hl
  refine lv_aload_n hx hb dX4_erase_0 rfl (lv_at hl 0 rfl) ?_
  refine va_get (D := D) (ci := 4) (v := .ref h) (C := RX4) (T := TX4) (N := 7) hx hb hts nX4_erase_X4 hown hK hP 0 rfl rfl 2 (by decide) (hts _ kX4_erase_28) (fun _ h9 => h9) rfl dX4_erase_1 ?_
  refine lv_iload_n hx hb dX4_erase_4 rfl (lv_at hl 1 rfl) ?_
  refine lv_iload_n hx hb dX4_erase_5 rfl (lv_at hl 2 rfl) ?_
  refine callVO (n := 2) (As := [.int (iI (x)), .int (iI (y))]) (rest := []) (wc := [(h, .inr (0, [.ref a1, .ref a2, .ref a3, .int (iI ((tt : Nat) : Int)), .ref a4, .int (iI ((ln : Nat) : Int)), .ref a5, .int (iI ((ed : Nat) : Int)), .int (iI ((es : Nat) : Int)), .int (iI ((ac : Nat) : Int)), .int (iI ((cu : Nat) : Int))]))]) S (c_addErasure_full l D cI cB cZ cO h a1 a2 a3 a4 a5 tt ln ed es ac cu x y (by first | assumption | (omega)) (by first | assumption | (omega)) (by first | assumption | (omega)) (by first | assumption | (omega)) (by first | assumption | (omega))) gX4_erase_X0_addErasure rfl ⟨rfl, rfl⟩ (by decide +kernel) ⟨Nat.le_of_ble_eq_true rfl, Nat.le_of_ble_eq_true rfl⟩ hE hP [1] rfl 0 0 rfl rfl rfl hl.1 rfl (Nat.le_of_ble_eq_true rfl) dX4_erase_6 ⟨Nat.le_of_ble_eq_true rfl, Nat.le_of_ble_eq_true rfl⟩ ?_
  exact r_iretO hx hb hr hlocks (rfl) dX4_erase_9

set_option maxHeartbeats 4000000 in
set_option maxRecDepth 100000 in
theorem p_erase (l : Launch) (D : va_G) (cI cB cZ cO : ClassId) (sz : Nat) (xp : Nat) (xc : Nat) (xs : Nat) (xq : Nat) (xl : Nat) (ag : Nat) (di : Nat) (h : Nat) (a1 : Nat) (a2 : Nat) (a3 : Nat) (a4 : Nat) (a5 : Nat) (tt : Nat) (ln : Nat) (ed : Nat) (es : Nat) (ac : Nat) (cu : Nat) (ow : Nat → Nat) (er : Nat → Nat) (ix : Nat → Nat) (ba : Nat → Nat) (f1 : Nat) (t1 : Nat) (hln : ln ≤ 60) (htt : tt ≤ 160) (hac : ac < 65536) (hix : ∀ j, ix j < 160) (hba : ∀ k, ba k < 65536) (hcu : cu ≤ 60) (how : ∀ k, ow k < 65536) (her : ∀ k, er k < 65536) (hoe : ∀ j, j < ln → ow (ix j) = 0 ∨ popc (ow (ix j) - 1) < ed) (hf1 : f1 < t1) (ht1 : t1 ≤ ln) (hed : ed < 16) (hcap : cnt (visb ow (erR er ix ed f1 (t1 - f1)) (ac ||| 2 ^ ed)) tt ≤ 60) : Met l yX4_erase wsX4_erase ({ frames := 4, cells := 0, slots := 0, locals := 87 }) (va_Pc [.ref xp, .int (iI ((f1 : Nat) : Int)), .int (iI ((t1 : Nat) : Int))] (RW D cI cB cZ cO sz [(xp, .inr (4, [.ref xc, .ref xs, .ref h, .ref xq, .ref xl, .int (iI ((ag : Nat) : Int)), .int (iI ((di : Nat) : Int))])), (h, .inr (0, [.ref a1, .ref a2, .ref a3, .int (iI ((tt : Nat) : Int)), .ref a4, .int (iI ((ln : Nat) : Int)), .ref a5, .int (iI ((ed : Nat) : Int)), .int (iI ((es : Nat) : Int)), .int (iI ((ac : Nat) : Int)), .int (iI ((cu : Nat) : Int))])), (a2, .inl (cI, 160, .inl (rN (ow)))), (a3, .inl (cI, 160, .inl (rN (er)))), (a4, .inl (cI, 60, .inl (rN (ix)))), (a5, .inl (cI, 16, .inl (rN (ba))))])) (QX D (S := (Nat → Nat)) (fun u => some (.int (iI ((ed : Nat) : Int)))) (fun u => (∀ j, u j < 160) ∧ (ixOK (visb ow (erR er ix ed f1 (t1 - f1)) (ac ||| 2 ^ ed)) tt u)) (fun u => [(xp, .inr (4, [.ref xc, .ref xs, .ref h, .ref xq, .ref xl, .int (iI ((ag : Nat) : Int)), .int (iI ((di : Nat) : Int))])), (h, .inr (0, [.ref a1, .ref a2, .ref a3, .int (iI ((tt : Nat) : Int)), .ref a4, .int (iI ((cnt (visb ow (erR er ix ed f1 (t1 - f1)) (ac ||| 2 ^ ed)) tt : Nat) : Int)), .ref a5, .int (iI ((ed + 1 : Nat) : Int)), .int (iI ((es ||| 2 ^ ed : Nat) : Int)), .int (iI ((ac ||| 2 ^ ed : Nat) : Int)), .int (iI ((min cu (cnt (visb ow (erR er ix ed f1 (t1 - f1)) (ac ||| 2 ^ ed)) tt) : Nat) : Int))])), (a2, .inl (cI, 160, .inl (rN (ow)))), (a3, .inl (cI, 160, .inl (rN (erR er ix ed f1 (t1 - f1))))), (a4, .inl (cI, 60, .inl (rN (u)))), (a5, .inl (cI, 16, .inl (rN (up ba ed (bthR ba ow ix f1 (t1 - f1))))))]) (va_A [(xp, .inr (4, [.ref xc, .ref xs, .ref h, .ref xq, .ref xl, .int (iI ((ag : Nat) : Int)), .int (iI ((di : Nat) : Int))])), (h, .inr (0, [.ref a1, .ref a2, .ref a3, .int (iI ((tt : Nat) : Int)), .ref a4, .int (iI ((ln : Nat) : Int)), .ref a5, .int (iI ((ed : Nat) : Int)), .int (iI ((es : Nat) : Int)), .int (iI ((ac : Nat) : Int)), .int (iI ((cu : Nat) : Int))])), (a2, .inl (cI, 160, .inl (rN (ow)))), (a3, .inl (cI, 160, .inl (rN (er)))), (a4, .inl (cI, 60, .inl (rN (ix)))), (a5, .inl (cI, 16, .inl (rN (ba))))] sz)) 0 0 (va_A [(xp, .inr (4, [.ref xc, .ref xs, .ref h, .ref xq, .ref xl, .int (iI ((ag : Nat) : Int)), .int (iI ((di : Nat) : Int))])), (h, .inr (0, [.ref a1, .ref a2, .ref a3, .int (iI ((tt : Nat) : Int)), .ref a4, .int (iI ((ln : Nat) : Int)), .ref a5, .int (iI ((ed : Nat) : Int)), .int (iI ((es : Nat) : Int)), .int (iI ((ac : Nat) : Int)), .int (iI ((cu : Nat) : Int))])), (a2, .inl (cI, 160, .inl (rN (ow)))), (a3, .inl (cI, 160, .inl (rN (er)))), (a4, .inl (cI, 60, .inl (rN (ix)))), (a5, .inl (cI, 16, .inl (rN (ba))))] sz) := by
  refine startW (cc := cX4_erase) (maxL := 3) (ret := (some .int)) (by decide) rfl (Nat.le_of_ble_eq_true rfl) ?_
  intro p e s m below meth c S hr hlocks hE hP A hD hA hS ls hl
  have hx := S.1
  have hb := S.2.1
  have hown := S.2.2.2.1
  have hts := S.2.2.2.2
  have hK := hE.1
  have hl : lv_has ls 3 [(0, .ref xp), (1, .int (iI ((f1 : Nat) : Int))), (2, .int (iI ((t1 : Nat) : Int)))] := hl
  refine lv_aload_n hx hb dX4_erase_0 rfl (lv_at hl 0 rfl) ?_
  refine va_get (D := D) (ci := 4) (v := .ref h) (C := RX4) (T := TX4) (N := 7) hx hb hts nX4_erase_X4 hown hK hP 0 rfl rfl 2 (by decide) (hts _ kX4_erase_28) (fun _ h9 => h9) rfl dX4_erase_1 ?_
  refine lv_iload_n hx hb dX4_erase_4 rfl (lv_at hl 1 rfl) ?_
  refine lv_iload_n hx hb dX4_erase_5 rfl (lv_at hl 2 rfl) ?_
  refine callVX (n := 2) (As := [.int (iI ((f1 : Nat) : Int)), .int (iI ((t1 : Nat) : Int))]) (rest := []) (wc := [(h, .inr (0, [.ref a1, .ref a2, .ref a3, .int (iI ((tt : Nat) : Int)), .ref a4, .int (iI ((ln : Nat) : Int)), .ref a5, .int (iI ((ed : Nat) : Int)), .int (iI ((es : Nat) : Int)), .int (iI ((ac : Nat) : Int)), .int (iI ((cu : Nat) : Int))])), (a2, .inl (cI, 160, .inl (rN (ow)))), (a3, .inl (cI, 160, .inl (rN (er)))), (a4, .inl (cI, 60, .inl (rN (ix)))), (a5, .inl (cI, 16, .inl (rN (ba))))]) (wr := [(xp, .inr (4, [.ref xc, .ref xs, .ref h, .ref xq, .ref xl, .int (iI ((ag : Nat) : Int)), .int (iI ((di : Nat) : Int))]))]) (ws2 := fun u => [(xp, .inr (4, [.ref xc, .ref xs, .ref h, .ref xq, .ref xl, .int (iI ((ag : Nat) : Int)), .int (iI ((di : Nat) : Int))])), (h, .inr (0, [.ref a1, .ref a2, .ref a3, .int (iI ((tt : Nat) : Int)), .ref a4, .int (iI ((cnt (visb ow (erR er ix ed f1 (t1 - f1)) (ac ||| 2 ^ ed)) tt : Nat) : Int)), .ref a5, .int (iI ((ed + 1 : Nat) : Int)), .int (iI ((es ||| 2 ^ ed : Nat) : Int)), .int (iI ((ac ||| 2 ^ ed : Nat) : Int)), .int (iI ((min cu (cnt (visb ow (erR er ix ed f1 (t1 - f1)) (ac ||| 2 ^ ed)) tt) : Nat) : Int))])), (a2, .inl (cI, 160, .inl (rN (ow)))), (a3, .inl (cI, 160, .inl (rN (erR er ix ed f1 (t1 - f1))))), (a4, .inl (cI, 60, .inl (rN (u)))), (a5, .inl (cI, 16, .inl (rN (up ba ed (bthR ba ow ix f1 (t1 - f1))))))]) S hE hP hD hS hA (c_addErasure l D cI cB cZ cO s.heap.size h a1 a2 a3 a4 a5 tt ln ed es ac cu ow er ix ba f1 t1 (by first | assumption | (omega)) (by first | assumption | (omega)) (by first | assumption | (omega)) (by first | assumption | (omega)) (by first | assumption | (omega)) (by first | assumption | (omega)) (by first | assumption | (omega)) (by first | assumption | (omega)) (by first | assumption | (omega)) (by first | assumption | (omega)) (by first | assumption | (omega)) (by first | assumption | (omega)) (by first | assumption | (omega))) gX4_erase_X0_addErasure rfl ⟨rfl, rfl⟩ (by decide +kernel) ⟨Nat.le_of_ble_eq_true rfl, Nat.le_of_ble_eq_true rfl⟩ [1, 2, 3, 4, 5] [0] [0, 1, 2, 3, 4, 5] rfl (by decide) rfl (by decide) (by decide) (by decide) (fun u => rfl) 0 0 rfl rfl rfl hl.1 rfl (Nat.le_of_ble_eq_true rfl) dX4_erase_6 ⟨Nat.le_of_ble_eq_true rfl, Nat.le_of_ble_eq_true rfl⟩ (fun u u6p H locs hP hD hS => ?_)
  generalize u = ix2_u6 at u6p hP hD ⊢
  obtain ⟨hix2_u6, hok_u6⟩ := u6p
  have hix2_u6 : ∀ j, ix2_u6 j < 160 := hix2_u6
  have hok_u6 : ixOK (visb ow (erR er ix ed f1 (t1 - f1)) (ac ||| 2 ^ ed)) tt ix2_u6 := hok_u6
  have hP : va_P D vwCl [(xp, .inr (4, [.ref xc, .ref xs, .ref h, .ref xq, .ref xl, .int (iI ((ag : Nat) : Int)), .int (iI ((di : Nat) : Int))])), (h, .inr (0, [.ref a1, .ref a2, .ref a3, .int (iI ((tt : Nat) : Int)), .ref a4, .int (iI ((cnt (visb ow (erR er ix ed f1 (t1 - f1)) (ac ||| 2 ^ ed)) tt : Nat) : Int)), .ref a5, .int (iI ((ed + 1 : Nat) : Int)), .int (iI ((es ||| 2 ^ ed : Nat) : Int)), .int (iI ((ac ||| 2 ^ ed : Nat) : Int)), .int (iI ((min cu (cnt (visb ow (erR er ix ed f1 (t1 - f1)) (ac ||| 2 ^ ed)) tt) : Nat) : Int))])), (a2, .inl (cI, 160, .inl (rN (ow)))), (a3, .inl (cI, 160, .inl (rN (erR er ix ed f1 (t1 - f1))))), (a4, .inl (cI, 60, .inl (rN (ix2_u6)))), (a5, .inl (cI, 16, .inl (rN (up ba ed (bthR ba ow ix f1 (t1 - f1))))))] H := hP
  have hD : va_D A [(xp, .inr (4, [.ref xc, .ref xs, .ref h, .ref xq, .ref xl, .int (iI ((ag : Nat) : Int)), .int (iI ((di : Nat) : Int))])), (h, .inr (0, [.ref a1, .ref a2, .ref a3, .int (iI ((tt : Nat) : Int)), .ref a4, .int (iI ((cnt (visb ow (erR er ix ed f1 (t1 - f1)) (ac ||| 2 ^ ed)) tt : Nat) : Int)), .ref a5, .int (iI ((ed + 1 : Nat) : Int)), .int (iI ((es ||| 2 ^ ed : Nat) : Int)), .int (iI ((ac ||| 2 ^ ed : Nat) : Int)), .int (iI ((min cu (cnt (visb ow (erR er ix ed f1 (t1 - f1)) (ac ||| 2 ^ ed)) tt) : Nat) : Int))])), (a2, .inl (cI, 160, .inl (rN (ow)))), (a3, .inl (cI, 160, .inl (rN (erR er ix ed f1 (t1 - f1))))), (a4, .inl (cI, 60, .inl (rN (ix2_u6)))), (a5, .inl (cI, 16, .inl (rN (up ba ed (bthR ba ow ix f1 (t1 - f1))))))] := hD
  refine W.eq (g2 := F0 m 9 ls [.int (iI ((ed : Nat) : Int))]) rfl ?_
  exact r_iretX hx hb hr hlocks hP hD hS (ix2_u6) (rfl) (⟨by assumption, by assumption⟩) rfl dX4_erase_9

theorem kX4_setCursor_28 : Cond.fieldLink RX4 28 "PricedUndo" "buffer" "LPricedUndo$Buffer;" ∈ wsX4_setCursor := by decide +kernel
theorem nX4_setCursor_X4 : ∀ w ∈ u_ws RX4 TX4 7, w ∈ wsX4_setCursor := by decide +kernel
theorem nX4_setCursor_X0 : ∀ w ∈ u_ws RX0 TX0 11, w ∈ wsX4_setCursor := by decide +kernel
set_option maxHeartbeats 4000000 in
set_option maxRecDepth 100000 in
theorem p_setCursor_bad (l : Launch) (D : va_G) (cI cB cZ cO : ClassId) (xp : Nat) (xc : Nat) (xs : Nat) (xq : Nat) (xl : Nat) (ag : Nat) (di : Nat) (h : Nat) (a1 : Nat) (a2 : Nat) (a3 : Nat) (a4 : Nat) (a5 : Nat) (tt : Nat) (ln : Nat) (ed : Nat) (es : Nat) (ac : Nat) (cu : Nat) (x : Int) (hln : ln ≤ 60) (rx : rg x) (hbad : ¬ (0 ≤ x ∧ x ≤ (ln : Int))) : Met l yX4_setCursor wsX4_setCursor ({ frames := 0, cells := 0, slots := 0, locals := 0 }) (va_Pc [.ref xp, .int (iI (x))] (RO D cI cB cZ cO [(xp, .inr (4, [.ref xc, .ref xs, .ref h, .ref xq, .ref xl, .int (iI ((ag : Nat) : Int)), .int (iI ((di : Nat) : Int))])), (h, .inr (0, [.ref a1, .ref a2, .ref a3, .int (iI ((tt : Nat) : Int)), .ref a4, .int (iI ((ln : Nat) : Int)), .ref a5, .int (iI ((ed : Nat) : Int)), .int (iI ((es : Nat) : Int)), .int (iI ((ac : Nat) : Int)), .int (iI ((cu : Nat) : Int))]))])) (QO (-1)) 0 0 (fun _ => False) := by
  refine startO (cc := cX4_setCursor) (maxL := 3) (ret := (some .int)) (by decide) rfl (Nat.le_of_ble_eq_true rfl) ?_
  intro p e s m below meth c S hr hlocks hE hP ls hl
  have hx := S.1
  have hb := S.2.1
  have hown := S.2.2.2.1
  have hts := S.2.2.2.2
  have hK := hE.1
  have hl : lv_has ls 3 [(0, .ref xp), (1, .int (iI (x)))] := hl
  refine lv_iload_n hx hb dX4_setCursor_0 rfl (lv_at hl 1 rfl) ?_
  refine r_if_lt (tgt := 15) hx hb (by omega) dX4_setCursor_1 (by decide) (fun c_1 => ?_) (fun c_1 => ?_)
  · skip
    refine r_iconst hx hb dX4_setCursor_15 ?_
    exact r_iretO hx hb hr hlocks (rfl) dX4_setCursor_16
  · skip
    refine lv_iload_n hx hb dX4_setCursor_4 rfl (lv_at hl 1 rfl) ?_
    refine lv_aload_n hx hb dX4_setCursor_5 rfl (lv_at hl 0 rfl) ?_
    refine va_get (D := D) (ci := 4) (v := .ref h) (C := RX4) (T := TX4) (N := 7) hx hb hts nX4_setCursor_X4 hown hK hP 0 rfl rfl 2 (by decide) (hts _ kX4_setCursor_28) (fun _ h9 => h9) rfl dX4_setCursor_6 ?_
    refine va_getN (D := D) (ci := 0) (v := .int (iI ((ln : Nat) : Int))) (C := RX0) (T := TX0) (N := 11) hx hb hts nX4_setCursor_X0 hown hK hP 1 rfl rfl 5 (by decide) (va_Nw.use rfl (hE.2.f 14 rfl)) (fun _ h9 => h9) rfl dX4_setCursor_9 ?_
    refine r_icmp_le (tgt := 17) hx hb (by omega) (by omega) dX4_setCursor_12 (by decide) (fun c_2 => ?_) (fun c_2 => ?_)
    · skip
      exfalso; omega
    · skip
      refine r_iconst hx hb dX4_setCursor_15 ?_
      exact r_iretO hx hb hr hlocks (rfl) dX4_setCursor_16

set_option maxHeartbeats 4000000 in
set_option maxRecDepth 100000 in
theorem p_setCursor (l : Launch) (D : va_G) (cI cB cZ cO : ClassId) (sz : Nat) (xp : Nat) (xc : Nat) (xs : Nat) (xq : Nat) (xl : Nat) (ag : Nat) (di : Nat) (h : Nat) (a1 : Nat) (a2 : Nat) (a3 : Nat) (a4 : Nat) (a5 : Nat) (tt : Nat) (ln : Nat) (ed : Nat) (es : Nat) (ac : Nat) (cu : Nat) (x1 : Nat) (hln : ln ≤ 60) (hx1 : x1 ≤ ln) : Met l yX4_setCursor wsX4_setCursor ({ frames := 0, cells := 0, slots := 0, locals := 0 }) (va_Pc [.ref xp, .int (iI ((x1 : Nat) : Int))] (RW D cI cB cZ cO sz [(xp, .inr (4, [.ref xc, .ref xs, .ref h, .ref xq, .ref xl, .int (iI ((ag : Nat) : Int)), .int (iI ((di : Nat) : Int))])), (h, .inr (0, [.ref a1, .ref a2, .ref a3, .int (iI ((tt : Nat) : Int)), .ref a4, .int (iI ((ln : Nat) : Int)), .ref a5, .int (iI ((ed : Nat) : Int)), .int (iI ((es : Nat) : Int)), .int (iI ((ac : Nat) : Int)), .int (iI ((cu : Nat) : Int))]))])) (QX D (S := Unit) (fun u => some (.int (iI ((cu : Nat) : Int)))) (fun u => True) (fun u => [(xp, .inr (4, [.ref xc, .ref xs, .ref h, .ref xq, .ref xl, .int (iI ((ag : Nat) : Int)), .int (iI ((di : Nat) : Int))])), (h, .inr (0, [.ref a1, .ref a2, .ref a3, .int (iI ((tt : Nat) : Int)), .ref a4, .int (iI ((ln : Nat) : Int)), .ref a5, .int (iI ((ed : Nat) : Int)), .int (iI ((es : Nat) : Int)), .int (iI ((ac : Nat) : Int)), .int (iI ((x1 : Nat) : Int))]))]) (va_A [(xp, .inr (4, [.ref xc, .ref xs, .ref h, .ref xq, .ref xl, .int (iI ((ag : Nat) : Int)), .int (iI ((di : Nat) : Int))])), (h, .inr (0, [.ref a1, .ref a2, .ref a3, .int (iI ((tt : Nat) : Int)), .ref a4, .int (iI ((ln : Nat) : Int)), .ref a5, .int (iI ((ed : Nat) : Int)), .int (iI ((es : Nat) : Int)), .int (iI ((ac : Nat) : Int)), .int (iI ((cu : Nat) : Int))]))] sz)) 0 0 (va_A [(xp, .inr (4, [.ref xc, .ref xs, .ref h, .ref xq, .ref xl, .int (iI ((ag : Nat) : Int)), .int (iI ((di : Nat) : Int))])), (h, .inr (0, [.ref a1, .ref a2, .ref a3, .int (iI ((tt : Nat) : Int)), .ref a4, .int (iI ((ln : Nat) : Int)), .ref a5, .int (iI ((ed : Nat) : Int)), .int (iI ((es : Nat) : Int)), .int (iI ((ac : Nat) : Int)), .int (iI ((cu : Nat) : Int))]))] sz) := by
  refine startW (cc := cX4_setCursor) (maxL := 3) (ret := (some .int)) (by decide) rfl (Nat.le_of_ble_eq_true rfl) ?_
  intro p e s m below meth c S hr hlocks hE hP A hD hA hS ls hl
  have hx := S.1
  have hb := S.2.1
  have hown := S.2.2.2.1
  have hts := S.2.2.2.2
  have hK := hE.1
  have hl : lv_has ls 3 [(0, .ref xp), (1, .int (iI ((x1 : Nat) : Int)))] := hl
  refine lv_iload_n hx hb dX4_setCursor_0 rfl (lv_at hl 1 rfl) ?_
  refine r_if_lt (tgt := 15) hx hb (by omega) dX4_setCursor_1 (by decide) (fun c_1 => ?_) (fun c_1 => ?_)
  · skip
    exfalso; omega
  · skip
    refine lv_iload_n hx hb dX4_setCursor_4 rfl (lv_at hl 1 rfl) ?_
    refine lv_aload_n hx hb dX4_setCursor_5 rfl (lv_at hl 0 rfl) ?_
    refine va_get (D := D) (ci := 4) (v := .ref h) (C := RX4) (T := TX4) (N := 7) hx hb hts nX4_setCursor_X4 hown hK hP 0 rfl rfl 2 (by decide) (hts _ kX4_setCursor_28) (fun _ h9 => h9) rfl dX4_setCursor_6 ?_
    refine va_getN (D := D) (ci := 0) (v := .int (iI ((ln : Nat) : Int))) (C := RX0) (T := TX0) (N := 11) hx hb hts nX4_setCursor_X0 hown hK hP 1 rfl rfl 5 (by decide) (va_Nw.use rfl (hE.2.f 14 rfl)) (fun _ h9 => h9) rfl dX4_setCursor_9 ?_
    refine r_icmp_le (tgt := 17) hx hb (by omega) (by omega) dX4_setCursor_12 (by decide) (fun c_2 => ?_) (fun c_2 => ?_)
    · skip
      refine lv_aload_n hx hb dX4_setCursor_17 rfl (lv_at hl 0 rfl) ?_
      refine va_get (D := D) (ci := 4) (v := .ref h) (C := RX4) (T := TX4) (N := 7) hx hb hts nX4_setCursor_X4 hown hK hP 0 rfl rfl 2 (by decide) (hts _ kX4_setCursor_28) (fun _ h9 => h9) rfl dX4_setCursor_18 ?_
      refine va_getN (D := D) (ci := 0) (v := .int (iI ((cu : Nat) : Int))) (C := RX0) (T := TX0) (N := 11) hx hb hts nX4_setCursor_X0 hown hK hP 1 rfl rfl 10 (by decide) (va_Nw.use rfl (hE.2.f 20 rfl)) (fun _ h9 => h9) rfl dX4_setCursor_21 ?_
      refine lv_istore_n (lv' := [(2, .int (iI ((cu : Nat) : Int))), (0, .ref xp), (1, .int (iI ((x1 : Nat) : Int)))]) hx hb dX4_setCursor_24 rfl hl (by decide) rfl (fun ls hl => ?_)
      refine lv_aload_n hx hb dX4_setCursor_25 rfl (lv_at hl 1 rfl) ?_
      refine va_get (D := D) (ci := 4) (v := .ref h) (C := RX4) (T := TX4) (N := 7) hx hb hts nX4_setCursor_X4 hown hK hP 0 rfl rfl 2 (by decide) (hts _ kX4_setCursor_28) (fun _ h9 => h9) rfl dX4_setCursor_26 ?_
      refine lv_iload_n hx hb dX4_setCursor_29 rfl (lv_at hl 2 rfl) ?_
      refine va_putN (D := D) (ci := 0) (v := .int (iI ((x1 : Nat) : Int))) (ty := .int) (C := RX0) (T := TX0) (N := 11) hx hb hts nX4_setCursor_X0 tyX0 tyX0_ok nmX0 hown hK hP hD hS 1 rfl rfl 10 (by decide) (va_Nw.use rfl (hE.2.f 20 rfl)) (fun _ h9 => h9) rfl (by decide +kernel) rfl rfl (Nat.le_of_ble_eq_true rfl) dX4_setCursor_30 (fun H locs hP hD hS => ?_)
      have hP : va_P D vwCl [(xp, .inr (4, [.ref xc, .ref xs, .ref h, .ref xq, .ref xl, .int (iI ((ag : Nat) : Int)), .int (iI ((di : Nat) : Int))])), (h, .inr (0, [.ref a1, .ref a2, .ref a3, .int (iI ((tt : Nat) : Int)), .ref a4, .int (iI ((ln : Nat) : Int)), .ref a5, .int (iI ((ed : Nat) : Int)), .int (iI ((es : Nat) : Int)), .int (iI ((ac : Nat) : Int)), .int (iI ((x1 : Nat) : Int))]))] H := hP
      have hD : va_D A [(xp, .inr (4, [.ref xc, .ref xs, .ref h, .ref xq, .ref xl, .int (iI ((ag : Nat) : Int)), .int (iI ((di : Nat) : Int))])), (h, .inr (0, [.ref a1, .ref a2, .ref a3, .int (iI ((tt : Nat) : Int)), .ref a4, .int (iI ((ln : Nat) : Int)), .ref a5, .int (iI ((ed : Nat) : Int)), .int (iI ((es : Nat) : Int)), .int (iI ((ac : Nat) : Int)), .int (iI ((x1 : Nat) : Int))]))] := hD
      refine lv_iload_n hx hb dX4_setCursor_33 rfl (lv_at hl 0 rfl) ?_
      exact r_iretX hx hb hr hlocks hP hD hS () (rfl) (trivial) rfl dX4_setCursor_34
    · skip
      exfalso; omega

set_option maxHeartbeats 4000000 in
set_option maxRecDepth 100000 in
theorem p_setPrices_bad (l : Launch) (D : va_G) (cI cB cZ cO : ClassId) (xp : Nat) (xc : Nat) (xs : Nat) (xq : Nat) (xl : Nat) (ag : Nat) (di : Nat) (h : Nat) (a1 : Nat) (a2 : Nat) (a3 : Nat) (a4 : Nat) (a5 : Nat) (tt : Nat) (ln : Nat) (ed : Nat) (es : Nat) (ac : Nat) (cu : Nat) (x : Int) (y : Int) (rx : rg x) (ry : rg y) (hbad : ¬ (0 ≤ x ∧ x ≤ 9 ∧ 0 ≤ y ∧ y ≤ 9)) : Met l yX4_setPrices wsX4_setPrices ({ frames := 0, cells := 0, slots := 0, locals := 0 }) (va_Pc [.ref xp, .int (iI (x)), .int (iI (y))] (RO D cI cB cZ cO [(xp, .inr (4, [.ref xc, .ref xs, .ref h, .ref xq, .ref xl, .int (iI ((ag : Nat) : Int)), .int (iI ((di : Nat) : Int))])), (h, .inr (0, [.ref a1, .ref a2, .ref a3, .int (iI ((tt : Nat) : Int)), .ref a4, .int (iI ((ln : Nat) : Int)), .ref a5, .int (iI ((ed : Nat) : Int)), .int (iI ((es : Nat) : Int)), .int (iI ((ac : Nat) : Int)), .int (iI ((cu : Nat) : Int))]))])) (QO (-1)) 0 0 (fun _ => False) := by
  refine startO (cc := cX4_setPrices) (maxL := 4) (ret := (some .int)) (by decide) rfl (Nat.le_of_ble_eq_true rfl) ?_
  intro p e s m below meth c S hr hlocks hE hP ls hl
  have hx := S.1
  have hb := S.2.1
  have hown := S.2.2.2.1
  have hts := S.2.2.2.2
  have hK := hE.1
  have hl : lv_has ls 4 [(0, .ref xp), (1, .int (iI (x))), (2, .int (iI (y)))] := hl
  refine lv_iload_n hx hb dX4_setPrices_0 rfl (lv_at hl 1 rfl) ?_
  refine r_if_lt (tgt := 20) hx hb (by omega) dX4_setPrices_1 (by decide) (fun c_1 => ?_) (fun c_1 => ?_)
  · skip
    refine r_iconst hx hb dX4_setPrices_20 ?_
    exact r_iretO hx hb hr hlocks (rfl) dX4_setPrices_21
  · skip
    refine lv_iload_n hx hb dX4_setPrices_4 rfl (lv_at hl 1 rfl) ?_
    refine r_bipush hx hb dX4_setPrices_5 (by decide) ?_
    refine r_icmp_gt (tgt := 20) hx hb (by omega) (⟨by decide, by decide⟩) dX4_setPrices_7 (by decide) (fun c_2 => ?_) (fun c_2 => ?_)
    · skip
      refine r_iconst hx hb dX4_setPrices_20 ?_
      exact r_iretO hx hb hr hlocks (rfl) dX4_setPrices_21
    · skip
      refine lv_iload_n hx hb dX4_setPrices_10 rfl (lv_at hl 2 rfl) ?_
      refine r_if_lt (tgt := 20) hx hb (by omega) dX4_setPrices_11 (by decide) (fun c_3 => ?_) (fun c_3 => ?_)
      · skip
        refine r_iconst hx hb dX4_setPrices_20 ?_
        exact r_iretO hx hb hr hlocks (rfl) dX4_setPrices_21
      · skip
        refine lv_iload_n hx hb dX4_setPrices_14 rfl (lv_at hl 2 rfl) ?_
        refine r_bipush hx hb dX4_setPrices_15 (by decide) ?_
        refine r_icmp_le (tgt := 22) hx hb (by omega) (⟨by decide, by decide⟩) dX4_setPrices_17 (by decide) (fun c_4 => ?_) (fun c_4 => ?_)
        · skip
          exfalso; omega
        · skip
          refine r_iconst hx hb dX4_setPrices_20 ?_
          exact r_iretO hx hb hr hlocks (rfl) dX4_setPrices_21

theorem kX4_setPrices_43 : Cond.fieldLink RX4 43 "PricedUndo" "ageRate" "I" ∈ wsX4_setPrices := by decide +kernel
theorem nX4_setPrices_X4 : ∀ w ∈ u_ws RX4 TX4 7, w ∈ wsX4_setPrices := by decide +kernel
theorem kX4_setPrices_47 : Cond.fieldLink RX4 47 "PricedUndo" "distanceRate" "I" ∈ wsX4_setPrices := by decide +kernel
set_option maxHeartbeats 4000000 in
set_option maxRecDepth 100000 in
theorem p_setPrices (l : Launch) (D : va_G) (cI cB cZ cO : ClassId) (sz : Nat) (xp : Nat) (xc : Nat) (xs : Nat) (xq : Nat) (xl : Nat) (ag : Nat) (di : Nat) (h : Nat) (a1 : Nat) (a2 : Nat) (a3 : Nat) (a4 : Nat) (a5 : Nat) (tt : Nat) (ln : Nat) (ed : Nat) (es : Nat) (ac : Nat) (cu : Nat) (x1 : Nat) (y1 : Nat) (hx1 : x1 ≤ 9) (hy1 : y1 ≤ 9) (hag : ag ≤ 9) (hdi : di ≤ 9) : Met l yX4_setPrices wsX4_setPrices ({ frames := 0, cells := 0, slots := 0, locals := 0 }) (va_Pc [.ref xp, .int (iI ((x1 : Nat) : Int)), .int (iI ((y1 : Nat) : Int))] (RW D cI cB cZ cO sz [(xp, .inr (4, [.ref xc, .ref xs, .ref h, .ref xq, .ref xl, .int (iI ((ag : Nat) : Int)), .int (iI ((di : Nat) : Int))])), (h, .inr (0, [.ref a1, .ref a2, .ref a3, .int (iI ((tt : Nat) : Int)), .ref a4, .int (iI ((ln : Nat) : Int)), .ref a5, .int (iI ((ed : Nat) : Int)), .int (iI ((es : Nat) : Int)), .int (iI ((ac : Nat) : Int)), .int (iI ((cu : Nat) : Int))]))])) (QX D (S := Unit) (fun u => some (.int (iI (bI (¬ (ag = x1 ∧ di = y1)))))) (fun u => True) (fun u => [(xp, .inr (4, [.ref xc, .ref xs, .ref h, .ref xq, .ref xl, .int (iI ((x1 : Nat) : Int)), .int (iI ((y1 : Nat) : Int))])), (h, .inr (0, [.ref a1, .ref a2, .ref a3, .int (iI ((tt : Nat) : Int)), .ref a4, .int (iI ((ln : Nat) : Int)), .ref a5, .int (iI ((ed : Nat) : Int)), .int (iI ((es : Nat) : Int)), .int (iI ((ac : Nat) : Int)), .int (iI ((cu : Nat) : Int))]))]) (va_A [(xp, .inr (4, [.ref xc, .ref xs, .ref h, .ref xq, .ref xl, .int (iI ((ag : Nat) : Int)), .int (iI ((di : Nat) : Int))])), (h, .inr (0, [.ref a1, .ref a2, .ref a3, .int (iI ((tt : Nat) : Int)), .ref a4, .int (iI ((ln : Nat) : Int)), .ref a5, .int (iI ((ed : Nat) : Int)), .int (iI ((es : Nat) : Int)), .int (iI ((ac : Nat) : Int)), .int (iI ((cu : Nat) : Int))]))] sz)) 0 0 (va_A [(xp, .inr (4, [.ref xc, .ref xs, .ref h, .ref xq, .ref xl, .int (iI ((ag : Nat) : Int)), .int (iI ((di : Nat) : Int))])), (h, .inr (0, [.ref a1, .ref a2, .ref a3, .int (iI ((tt : Nat) : Int)), .ref a4, .int (iI ((ln : Nat) : Int)), .ref a5, .int (iI ((ed : Nat) : Int)), .int (iI ((es : Nat) : Int)), .int (iI ((ac : Nat) : Int)), .int (iI ((cu : Nat) : Int))]))] sz) := by
  refine startW (cc := cX4_setPrices) (maxL := 4) (ret := (some .int)) (by decide) rfl (Nat.le_of_ble_eq_true rfl) ?_
  intro p e s m below meth c S hr hlocks hE hP A hD hA hS ls hl
  have hx := S.1
  have hb := S.2.1
  have hown := S.2.2.2.1
  have hts := S.2.2.2.2
  have hK := hE.1
  have hl : lv_has ls 4 [(0, .ref xp), (1, .int (iI ((x1 : Nat) : Int))), (2, .int (iI ((y1 : Nat) : Int)))] := hl
  refine lv_iload_n hx hb dX4_setPrices_0 rfl (lv_at hl 1 rfl) ?_
  refine r_if_lt (tgt := 20) hx hb (by omega) dX4_setPrices_1 (by decide) (fun c_1 => ?_) (fun c_1 => ?_)
  · skip
    exfalso; omega
  · skip
    refine lv_iload_n hx hb dX4_setPrices_4 rfl (lv_at hl 1 rfl) ?_
    refine r_bipush hx hb dX4_setPrices_5 (by decide) ?_
    refine r_icmp_gt (tgt := 20) hx hb (by omega) (⟨by decide, by decide⟩) dX4_setPrices_7 (by decide) (fun c_2 => ?_) (fun c_2 => ?_)
    · skip
      exfalso; omega
    · skip
      refine lv_iload_n hx hb dX4_setPrices_10 rfl (lv_at hl 2 rfl) ?_
      refine r_if_lt (tgt := 20) hx hb (by omega) dX4_setPrices_11 (by decide) (fun c_3 => ?_) (fun c_3 => ?_)
      · skip
        exfalso; omega
      · skip
        refine lv_iload_n hx hb dX4_setPrices_14 rfl (lv_at hl 2 rfl) ?_
        refine r_bipush hx hb dX4_setPrices_15 (by decide) ?_
        refine r_icmp_le (tgt := 22) hx hb (by omega) (⟨by decide, by decide⟩) dX4_setPrices_17 (by decide) (fun c_4 => ?_) (fun c_4 => ?_)
        · skip
          refine lv_iload_n hx hb dX4_setPrices_22 rfl (lv_at hl 1 rfl) ?_
          refine lv_aload_n hx hb dX4_setPrices_23 rfl (lv_at hl 0 rfl) ?_
          refine va_get (D := D) (ci := 4) (v := .int (iI ((ag : Nat) : Int))) (C := RX4) (T := TX4) (N := 7) hx hb hts nX4_setPrices_X4 hown hK hP 0 rfl rfl 5 (by decide) (hts _ kX4_setPrices_43) (fun _ h9 => h9) rfl dX4_setPrices_24 ?_
          refine r_icmp_ne (tgt := 38) hx hb (by omega) (by omega) dX4_setPrices_27 (by decide) (fun c_5 => ?_) (fun c_5 => ?_)
          · skip
            refine r_iconst hx hb dX4_setPrices_38 ?_
            refine lv_goto (tgt := 43) hx hb dX4_setPrices_39 (by decide) ?_
            refine lv_istore_n (lv' := [(3, .int (iI 1)), (0, .ref xp), (1, .int (iI ((x1 : Nat) : Int))), (2, .int (iI ((y1 : Nat) : Int)))]) hx hb dX4_setPrices_43 rfl hl (by decide) rfl (fun ls hl => ?_)
            refine lv_aload_n hx hb dX4_setPrices_44 rfl (lv_at hl 1 rfl) ?_
            refine lv_iload_n hx hb dX4_setPrices_45 rfl (lv_at hl 2 rfl) ?_
            refine va_put (D := D) (ci := 4) (v := .int (iI ((x1 : Nat) : Int))) (ty := .int) (C := RX4) (T := TX4) (N := 7) hx hb hts nX4_setPrices_X4 tyX4 tyX4_ok nmX4 hown hK hP hD hS 0 rfl rfl 5 (by decide) (hts _ kX4_setPrices_43) (fun _ h9 => h9) rfl (by decide +kernel) rfl rfl (Nat.le_of_ble_eq_true rfl) dX4_setPrices_46 (fun H locs hP hD hS => ?_)
            have hP : va_P D vwCl [(xp, .inr (4, [.ref xc, .ref xs, .ref h, .ref xq, .ref xl, .int (iI ((x1 : Nat) : Int)), .int (iI ((di : Nat) : Int))])), (h, .inr (0, [.ref a1, .ref a2, .ref a3, .int (iI ((tt : Nat) : Int)), .ref a4, .int (iI ((ln : Nat) : Int)), .ref a5, .int (iI ((ed : Nat) : Int)), .int (iI ((es : Nat) : Int)), .int (iI ((ac : Nat) : Int)), .int (iI ((cu : Nat) : Int))]))] H := hP
            have hD : va_D A [(xp, .inr (4, [.ref xc, .ref xs, .ref h, .ref xq, .ref xl, .int (iI ((x1 : Nat) : Int)), .int (iI ((di : Nat) : Int))])), (h, .inr (0, [.ref a1, .ref a2, .ref a3, .int (iI ((tt : Nat) : Int)), .ref a4, .int (iI ((ln : Nat) : Int)), .ref a5, .int (iI ((ed : Nat) : Int)), .int (iI ((es : Nat) : Int)), .int (iI ((ac : Nat) : Int)), .int (iI ((cu : Nat) : Int))]))] := hD
            refine lv_aload_n hx hb dX4_setPrices_49 rfl (lv_at hl 1 rfl) ?_
            refine lv_iload_n hx hb dX4_setPrices_50 rfl (lv_at hl 3 rfl) ?_
            refine va_put (D := D) (ci := 4) (v := .int (iI ((y1 : Nat) : Int))) (ty := .int) (C := RX4) (T := TX4) (N := 7) hx hb hts nX4_setPrices_X4 tyX4 tyX4_ok nmX4 hown hK hP hD hS 0 rfl rfl 6 (by decide) (hts _ kX4_setPrices_47) (fun _ h9 => h9) rfl (by decide +kernel) rfl rfl (Nat.le_of_ble_eq_true rfl) dX4_setPrices_51 (fun H locs hP hD hS => ?_)
            have hP : va_P D vwCl [(xp, .inr (4, [.ref xc, .ref xs, .ref h, .ref xq, .ref xl, .int (iI ((x1 : Nat) : Int)), .int (iI ((y1 : Nat) : Int))])), (h, .inr (0, [.ref a1, .ref a2, .ref a3, .int (iI ((tt : Nat) : Int)), .ref a4, .int (iI ((ln : Nat) : Int)), .ref a5, .int (iI ((ed : Nat) : Int)), .int (iI ((es : Nat) : Int)), .int (iI ((ac : Nat) : Int)), .int (iI ((cu : Nat) : Int))]))] H := hP
            have hD : va_D A [(xp, .inr (4, [.ref xc, .ref xs, .ref h, .ref xq, .ref xl, .int (iI ((x1 : Nat) : Int)), .int (iI ((y1 : Nat) : Int))])), (h, .inr (0, [.ref a1, .ref a2, .ref a3, .int (iI ((tt : Nat) : Int)), .ref a4, .int (iI ((ln : Nat) : Int)), .ref a5, .int (iI ((ed : Nat) : Int)), .int (iI ((es : Nat) : Int)), .int (iI ((ac : Nat) : Int)), .int (iI ((cu : Nat) : Int))]))] := hD
            refine lv_iload_n hx hb dX4_setPrices_54 rfl (lv_at hl 0 rfl) ?_
            exact r_iretX hx hb hr hlocks hP hD hS () (congrArg (fun z => some (Value.int (iI z))) (((bI_t (by omega)).symm : 1 = (bI (¬ (ag = x1 ∧ di = y1)))).symm)) (trivial) rfl dX4_setPrices_55
          · skip
            refine lv_iload_n hx hb dX4_setPrices_30 rfl (lv_at hl 2 rfl) ?_
            refine lv_aload_n hx hb dX4_setPrices_31 rfl (lv_at hl 0 rfl) ?_
            refine va_get (D := D) (ci := 4) (v := .int (iI ((di : Nat) : Int))) (C := RX4) (T := TX4) (N := 7) hx hb hts nX4_setPrices_X4 hown hK hP 0 rfl rfl 6 (by decide) (hts _ kX4_setPrices_47) (fun _ h9 => h9) rfl dX4_setPrices_32 ?_
            refine r_icmp_eq (tgt := 42) hx hb (by omega) (by omega) dX4_setPrices_35 (by decide) (fun c_6 => ?_) (fun c_6 => ?_)
            · skip
              refine r_iconst hx hb dX4_setPrices_42 ?_
              refine lv_istore_n (lv' := [(3, .int (iI 0)), (0, .ref xp), (1, .int (iI ((x1 : Nat) : Int))), (2, .int (iI ((y1 : Nat) : Int)))]) hx hb dX4_setPrices_43 rfl hl (by decide) rfl (fun ls hl => ?_)
              refine lv_aload_n hx hb dX4_setPrices_44 rfl (lv_at hl 1 rfl) ?_
              refine lv_iload_n hx hb dX4_setPrices_45 rfl (lv_at hl 2 rfl) ?_
              refine va_put (D := D) (ci := 4) (v := .int (iI ((x1 : Nat) : Int))) (ty := .int) (C := RX4) (T := TX4) (N := 7) hx hb hts nX4_setPrices_X4 tyX4 tyX4_ok nmX4 hown hK hP hD hS 0 rfl rfl 5 (by decide) (hts _ kX4_setPrices_43) (fun _ h9 => h9) rfl (by decide +kernel) rfl rfl (Nat.le_of_ble_eq_true rfl) dX4_setPrices_46 (fun H locs hP hD hS => ?_)
              have hP : va_P D vwCl [(xp, .inr (4, [.ref xc, .ref xs, .ref h, .ref xq, .ref xl, .int (iI ((x1 : Nat) : Int)), .int (iI ((di : Nat) : Int))])), (h, .inr (0, [.ref a1, .ref a2, .ref a3, .int (iI ((tt : Nat) : Int)), .ref a4, .int (iI ((ln : Nat) : Int)), .ref a5, .int (iI ((ed : Nat) : Int)), .int (iI ((es : Nat) : Int)), .int (iI ((ac : Nat) : Int)), .int (iI ((cu : Nat) : Int))]))] H := hP
              have hD : va_D A [(xp, .inr (4, [.ref xc, .ref xs, .ref h, .ref xq, .ref xl, .int (iI ((x1 : Nat) : Int)), .int (iI ((di : Nat) : Int))])), (h, .inr (0, [.ref a1, .ref a2, .ref a3, .int (iI ((tt : Nat) : Int)), .ref a4, .int (iI ((ln : Nat) : Int)), .ref a5, .int (iI ((ed : Nat) : Int)), .int (iI ((es : Nat) : Int)), .int (iI ((ac : Nat) : Int)), .int (iI ((cu : Nat) : Int))]))] := hD
              refine lv_aload_n hx hb dX4_setPrices_49 rfl (lv_at hl 1 rfl) ?_
              refine lv_iload_n hx hb dX4_setPrices_50 rfl (lv_at hl 3 rfl) ?_
              refine va_put (D := D) (ci := 4) (v := .int (iI ((y1 : Nat) : Int))) (ty := .int) (C := RX4) (T := TX4) (N := 7) hx hb hts nX4_setPrices_X4 tyX4 tyX4_ok nmX4 hown hK hP hD hS 0 rfl rfl 6 (by decide) (hts _ kX4_setPrices_47) (fun _ h9 => h9) rfl (by decide +kernel) rfl rfl (Nat.le_of_ble_eq_true rfl) dX4_setPrices_51 (fun H locs hP hD hS => ?_)
              have hP : va_P D vwCl [(xp, .inr (4, [.ref xc, .ref xs, .ref h, .ref xq, .ref xl, .int (iI ((x1 : Nat) : Int)), .int (iI ((y1 : Nat) : Int))])), (h, .inr (0, [.ref a1, .ref a2, .ref a3, .int (iI ((tt : Nat) : Int)), .ref a4, .int (iI ((ln : Nat) : Int)), .ref a5, .int (iI ((ed : Nat) : Int)), .int (iI ((es : Nat) : Int)), .int (iI ((ac : Nat) : Int)), .int (iI ((cu : Nat) : Int))]))] H := hP
              have hD : va_D A [(xp, .inr (4, [.ref xc, .ref xs, .ref h, .ref xq, .ref xl, .int (iI ((x1 : Nat) : Int)), .int (iI ((y1 : Nat) : Int))])), (h, .inr (0, [.ref a1, .ref a2, .ref a3, .int (iI ((tt : Nat) : Int)), .ref a4, .int (iI ((ln : Nat) : Int)), .ref a5, .int (iI ((ed : Nat) : Int)), .int (iI ((es : Nat) : Int)), .int (iI ((ac : Nat) : Int)), .int (iI ((cu : Nat) : Int))]))] := hD
              refine lv_iload_n hx hb dX4_setPrices_54 rfl (lv_at hl 0 rfl) ?_
              exact r_iretX hx hb hr hlocks hP hD hS () (congrArg (fun z => some (Value.int (iI z))) (((bI_f (by omega)).symm : 0 = (bI (¬ (ag = x1 ∧ di = y1)))).symm)) (trivial) rfl dX4_setPrices_55
            · skip
              refine r_iconst hx hb dX4_setPrices_38 ?_
              refine lv_goto (tgt := 43) hx hb dX4_setPrices_39 (by decide) ?_
              refine lv_istore_n (lv' := [(3, .int (iI 1)), (0, .ref xp), (1, .int (iI ((x1 : Nat) : Int))), (2, .int (iI ((y1 : Nat) : Int)))]) hx hb dX4_setPrices_43 rfl hl (by decide) rfl (fun ls hl => ?_)
              refine lv_aload_n hx hb dX4_setPrices_44 rfl (lv_at hl 1 rfl) ?_
              refine lv_iload_n hx hb dX4_setPrices_45 rfl (lv_at hl 2 rfl) ?_
              refine va_put (D := D) (ci := 4) (v := .int (iI ((x1 : Nat) : Int))) (ty := .int) (C := RX4) (T := TX4) (N := 7) hx hb hts nX4_setPrices_X4 tyX4 tyX4_ok nmX4 hown hK hP hD hS 0 rfl rfl 5 (by decide) (hts _ kX4_setPrices_43) (fun _ h9 => h9) rfl (by decide +kernel) rfl rfl (Nat.le_of_ble_eq_true rfl) dX4_setPrices_46 (fun H locs hP hD hS => ?_)
              have hP : va_P D vwCl [(xp, .inr (4, [.ref xc, .ref xs, .ref h, .ref xq, .ref xl, .int (iI ((x1 : Nat) : Int)), .int (iI ((di : Nat) : Int))])), (h, .inr (0, [.ref a1, .ref a2, .ref a3, .int (iI ((tt : Nat) : Int)), .ref a4, .int (iI ((ln : Nat) : Int)), .ref a5, .int (iI ((ed : Nat) : Int)), .int (iI ((es : Nat) : Int)), .int (iI ((ac : Nat) : Int)), .int (iI ((cu : Nat) : Int))]))] H := hP
              have hD : va_D A [(xp, .inr (4, [.ref xc, .ref xs, .ref h, .ref xq, .ref xl, .int (iI ((x1 : Nat) : Int)), .int (iI ((di : Nat) : Int))])), (h, .inr (0, [.ref a1, .ref a2, .ref a3, .int (iI ((tt : Nat) : Int)), .ref a4, .int (iI ((ln : Nat) : Int)), .ref a5, .int (iI ((ed : Nat) : Int)), .int (iI ((es : Nat) : Int)), .int (iI ((ac : Nat) : Int)), .int (iI ((cu : Nat) : Int))]))] := hD
              refine lv_aload_n hx hb dX4_setPrices_49 rfl (lv_at hl 1 rfl) ?_
              refine lv_iload_n hx hb dX4_setPrices_50 rfl (lv_at hl 3 rfl) ?_
              refine va_put (D := D) (ci := 4) (v := .int (iI ((y1 : Nat) : Int))) (ty := .int) (C := RX4) (T := TX4) (N := 7) hx hb hts nX4_setPrices_X4 tyX4 tyX4_ok nmX4 hown hK hP hD hS 0 rfl rfl 6 (by decide) (hts _ kX4_setPrices_47) (fun _ h9 => h9) rfl (by decide +kernel) rfl rfl (Nat.le_of_ble_eq_true rfl) dX4_setPrices_51 (fun H locs hP hD hS => ?_)
              have hP : va_P D vwCl [(xp, .inr (4, [.ref xc, .ref xs, .ref h, .ref xq, .ref xl, .int (iI ((x1 : Nat) : Int)), .int (iI ((y1 : Nat) : Int))])), (h, .inr (0, [.ref a1, .ref a2, .ref a3, .int (iI ((tt : Nat) : Int)), .ref a4, .int (iI ((ln : Nat) : Int)), .ref a5, .int (iI ((ed : Nat) : Int)), .int (iI ((es : Nat) : Int)), .int (iI ((ac : Nat) : Int)), .int (iI ((cu : Nat) : Int))]))] H := hP
              have hD : va_D A [(xp, .inr (4, [.ref xc, .ref xs, .ref h, .ref xq, .ref xl, .int (iI ((x1 : Nat) : Int)), .int (iI ((y1 : Nat) : Int))])), (h, .inr (0, [.ref a1, .ref a2, .ref a3, .int (iI ((tt : Nat) : Int)), .ref a4, .int (iI ((ln : Nat) : Int)), .ref a5, .int (iI ((ed : Nat) : Int)), .int (iI ((es : Nat) : Int)), .int (iI ((ac : Nat) : Int)), .int (iI ((cu : Nat) : Int))]))] := hD
              refine lv_iload_n hx hb dX4_setPrices_54 rfl (lv_at hl 0 rfl) ?_
              exact r_iretX hx hb hr hlocks hP hD hS () (congrArg (fun z => some (Value.int (iI z))) (((bI_t (by omega)).symm : 1 = (bI (¬ (ag = x1 ∧ di = y1)))).symm)) (trivial) rfl dX4_setPrices_55
        · skip
          exfalso; omega

set_option maxHeartbeats 4000000 in
set_option maxRecDepth 100000 in
theorem p_char_bad (l : Launch) (D : va_G) (cI cB cZ cO : ClassId) (xp : Nat) (xc : Nat) (xs : Nat) (xq : Nat) (xl : Nat) (ag : Nat) (di : Nat) (h : Nat) (a1 : Nat) (a2 : Nat) (a3 : Nat) (a4 : Nat) (a5 : Nat) (tt : Nat) (ln : Nat) (ed : Nat) (es : Nat) (ac : Nat) (cu : Nat) (x : Int) (rx : rg x) (hbad : x < 0) : Met l yX4_character wsX4_character ({ frames := 0, cells := 0, slots := 0, locals := 0 }) (va_Pc [.ref xp, .int (iI (x))] (RO D cI cB cZ cO [(xp, .inr (4, [.ref xc, .ref xs, .ref h, .ref xq, .ref xl, .int (iI ((ag : Nat) : Int)), .int (iI ((di : Nat) : Int))])), (h, .inr (0, [.ref a1, .ref a2, .ref a3, .int (iI ((tt : Nat) : Int)), .ref a4, .int (iI ((ln : Nat) : Int)), .ref a5, .int (iI ((ed : Nat) : Int)), .int (iI ((es : Nat) : Int)), .int (iI ((ac : Nat) : Int)), .int (iI ((cu : Nat) : Int))]))])) (QO (-1)) 0 0 (fun _ => False) := by
  refine startO (cc := cX4_character) (maxL := 2) (ret := (some .int)) (by decide) rfl (Nat.le_of_ble_eq_true rfl) ?_
  intro p e s m below meth c S hr hlocks hE hP ls hl
  have hx := S.1
  have hb := S.2.1
  have hown := S.2.2.2.1
  have hts := S.2.2.2.2
  have hK := hE.1
  have hl : lv_has ls 2 [(0, .ref xp), (1, .int (iI (x)))] := hl
  refine lv_iload_n hx hb dX4_character_0 rfl (lv_at hl 1 rfl) ?_
  refine r_if_ge (tgt := 6) hx hb (by omega) dX4_character_1 (by decide) (fun c_1 => ?_) (fun c_1 => ?_)
  · skip
    exfalso; omega
  · skip
    refine r_iconst hx hb dX4_character_4 ?_
    exact r_iretO hx hb hr hlocks (rfl) dX4_character_5

theorem kX4_character_28 : Cond.fieldLink RX4 28 "PricedUndo" "buffer" "LPricedUndo$Buffer;" ∈ wsX4_character := by decide +kernel
theorem nX4_character_X4 : ∀ w ∈ u_ws RX4 TX4 7, w ∈ wsX4_character := by decide +kernel
set_option maxHeartbeats 4000000 in
set_option maxRecDepth 100000 in
theorem p_char_none (l : Launch) (D : va_G) (cI cB cZ cO : ClassId) (xp : Nat) (xc : Nat) (xs : Nat) (xq : Nat) (xl : Nat) (ag : Nat) (di : Nat) (h : Nat) (a1 : Nat) (a2 : Nat) (a3 : Nat) (a4 : Nat) (a5 : Nat) (tt : Nat) (ln : Nat) (ed : Nat) (es : Nat) (ac : Nat) (cu : Nat) (j : Nat) (hj : j < 2147483648) (hln : ln ≤ 60) (hno : ¬ j < ln) : Met l yX4_character wsX4_character ({ frames := 1, cells := 0, slots := 0, locals := 21 }) (va_Pc [.ref xp, .int (iI ((j : Nat) : Int))] (RO D cI cB cZ cO [(xp, .inr (4, [.ref xc, .ref xs, .ref h, .ref xq, .ref xl, .int (iI ((ag : Nat) : Int)), .int (iI ((di : Nat) : Int))])), (h, .inr (0, [.ref a1, .ref a2, .ref a3, .int (iI ((tt : Nat) : Int)), .ref a4, .int (iI ((ln : Nat) : Int)), .ref a5, .int (iI ((ed : Nat) : Int)), .int (iI ((es : Nat) : Int)), .int (iI ((ac : Nat) : Int)), .int (iI ((cu : Nat) : Int))]))])) (QO (-9)) 0 0 (fun _ => False) := by
  refine startO (cc := cX4_character) (maxL := 2) (ret := (some .int)) (by decide) rfl (Nat.le_of_ble_eq_true rfl) ?_
  intro p e s m below meth c S hr hlocks hE hP ls hl
  have hx := S.1
  have hb := S.2.1
  have hown := S.2.2.2.1
  have hts := S.2.2.2.2
  have hK := hE.1
  have hl : lv_has ls 2 [(0, .ref xp), (1, .int (iI ((j : Nat) : Int)))] := hl
  refine lv_iload_n hx hb dX4_character_0 rfl (lv_at hl 1 rfl) ?_
  refine r_if_ge (tgt := 6) hx hb (by omega) dX4_character_1 (by decide) (fun c_1 => ?_) (fun c_1 => ?_)
  · skip
    refine lv_aload_n hx hb dX4_character_6 rfl (lv_at hl 0 rfl) ?_
    refine va_get (D := D) (ci := 4) (v := .ref h) (C := RX4) (T := TX4) (N := 7) hx hb hts nX4_character_X4 hown hK hP 0 rfl rfl 2 (by decide) (hts _ kX4_character_28) (fun _ h9 => h9) rfl dX4_character_7 ?_
    refine lv_iload_n hx hb dX4_character_10 rfl (lv_at hl 1 rfl) ?_
    refine callVO (n := 1) (As := [.int (iI ((j : Nat) : Int))]) (rest := []) (wc := [(h, .inr (0, [.ref a1, .ref a2, .ref a3, .int (iI ((tt : Nat) : Int)), .ref a4, .int (iI ((ln : Nat) : Int)), .ref a5, .int (iI ((ed : Nat) : Int)), .int (iI ((es : Nat) : Int)), .int (iI ((ac : Nat) : Int)), .int (iI ((cu : Nat) : Int))]))]) S (c_hasPlace l D cI cB cZ cO h a1 a2 a3 a4 a5 tt ln ed es ac cu (((j : Nat) : Int)) (by first | assumption | (omega)) (by first | assumption | (omega))) gX4_character_X0_hasPlace rfl ⟨rfl, rfl⟩ (by decide +kernel) ⟨Nat.le_of_ble_eq_true rfl, Nat.le_of_ble_eq_true rfl⟩ hE hP [1] rfl 0 0 rfl rfl rfl hl.1 rfl (Nat.le_of_ble_eq_true rfl) dX4_character_11 ⟨Nat.le_of_ble_eq_true rfl, Nat.le_of_ble_eq_true rfl⟩ ?_
    refine r_ifb_eq (tgt := 28) hx hb dX4_character_14 (by decide) (fun c_2 => ?_) (fun c_2 => ?_)
    · skip
      refine r_bipush hx hb dX4_character_28 (by decide) ?_
      exact r_iretO hx hb hr hlocks (rfl) dX4_character_30
    · skip
      exfalso; omega
  · skip
    exfalso; omega

set_option maxHeartbeats 4000000 in
set_option maxRecDepth 100000 in
theorem p_char (l : Launch) (D : va_G) (cI cB cZ cO : ClassId) (xp : Nat) (xc : Nat) (xs : Nat) (xq : Nat) (xl : Nat) (ag : Nat) (di : Nat) (h : Nat) (a1 : Nat) (a2 : Nat) (a3 : Nat) (a4 : Nat) (a5 : Nat) (tt : Nat) (ln : Nat) (ed : Nat) (es : Nat) (ac : Nat) (cu : Nat) (co : Nat → Nat) (ix : Nat → Nat) (j : Nat) (hln : ln ≤ 60) (hj : j < ln) (hix : ∀ j, ix j < 160) : Met l yX4_character wsX4_character ({ frames := 2, cells := 0, slots := 0, locals := 42 }) (va_Pc [.ref xp, .int (iI ((j : Nat) : Int))] (RO D cI cB cZ cO [(xp, .inr (4, [.ref xc, .ref xs, .ref h, .ref xq, .ref xl, .int (iI ((ag : Nat) : Int)), .int (iI ((di : Nat) : Int))])), (h, .inr (0, [.ref a1, .ref a2, .ref a3, .int (iI ((tt : Nat) : Int)), .ref a4, .int (iI ((ln : Nat) : Int)), .ref a5, .int (iI ((ed : Nat) : Int)), .int (iI ((es : Nat) : Int)), .int (iI ((ac : Nat) : Int)), .int (iI ((cu : Nat) : Int))])), (a1, .inl (cI, 160, .inl (rN (co)))), (a4, .inl (cI, 60, .inl (rN (ix))))])) (QO ((co (ix j) : Nat) : Int)) 0 0 (fun _ => False) := by
  refine startO (cc := cX4_character) (maxL := 2) (ret := (some .int)) (by decide) rfl (Nat.le_of_ble_eq_true rfl) ?_
  intro p e s m below meth c S hr hlocks hE hP ls hl
  have hx := S.1
  have hb := S.2.1
  have hown := S.2.2.2.1
  have hts := S.2.2.2.2
  have hK := hE.1
  have hl : lv_has ls 2 [(0, .ref xp), (1, .int (iI ((j : Nat) : Int)))] := hl
  refine lv_iload_n hx hb dX4_character_0 rfl (lv_at hl 1 rfl) ?_
  refine r_if_ge (tgt := 6) hx hb (by omega) dX4_character_1 (by decide) (fun c_1 => ?_) (fun c_1 => ?_)
  · skip
    refine lv_aload_n hx hb dX4_character_6 rfl (lv_at hl 0 rfl) ?_
    refine va_get (D := D) (ci := 4) (v := .ref h) (C := RX4) (T := TX4) (N := 7) hx hb hts nX4_character_X4 hown hK hP 0 rfl rfl 2 (by decide) (hts _ kX4_character_28) (fun _ h9 => h9) rfl dX4_character_7 ?_
    refine lv_iload_n hx hb dX4_character_10 rfl (lv_at hl 1 rfl) ?_
    refine callVO (n := 1) (As := [.int (iI ((j : Nat) : Int))]) (rest := []) (wc := [(h, .inr (0, [.ref a1, .ref a2, .ref a3, .int (iI ((tt : Nat) : Int)), .ref a4, .int (iI ((ln : Nat) : Int)), .ref a5, .int (iI ((ed : Nat) : Int)), .int (iI ((es : Nat) : Int)), .int (iI ((ac : Nat) : Int)), .int (iI ((cu : Nat) : Int))]))]) S (c_hasPlace l D cI cB cZ cO h a1 a2 a3 a4 a5 tt ln ed es ac cu (((j : Nat) : Int)) (by first | assumption | (omega)) (by first | assumption | (omega))) gX4_character_X0_hasPlace rfl ⟨rfl, rfl⟩ (by decide +kernel) ⟨Nat.le_of_ble_eq_true rfl, Nat.le_of_ble_eq_true rfl⟩ hE hP [1] rfl 0 0 rfl rfl rfl hl.1 rfl (Nat.le_of_ble_eq_true rfl) dX4_character_11 ⟨Nat.le_of_ble_eq_true rfl, Nat.le_of_ble_eq_true rfl⟩ ?_
    refine r_ifb_eq (tgt := 28) hx hb dX4_character_14 (by decide) (fun c_2 => ?_) (fun c_2 => ?_)
    · skip
      exfalso; omega
    · skip
      refine lv_aload_n hx hb dX4_character_17 rfl (lv_at hl 0 rfl) ?_
      refine va_get (D := D) (ci := 4) (v := .ref h) (C := RX4) (T := TX4) (N := 7) hx hb hts nX4_character_X4 hown hK hP 0 rfl rfl 2 (by decide) (hts _ kX4_character_28) (fun _ h9 => h9) rfl dX4_character_18 ?_
      refine lv_iload_n hx hb dX4_character_21 rfl (lv_at hl 1 rfl) ?_
      refine callVO (n := 1) (As := [.int (iI ((j : Nat) : Int))]) (rest := []) (wc := [(h, .inr (0, [.ref a1, .ref a2, .ref a3, .int (iI ((tt : Nat) : Int)), .ref a4, .int (iI ((ln : Nat) : Int)), .ref a5, .int (iI ((ed : Nat) : Int)), .int (iI ((es : Nat) : Int)), .int (iI ((ac : Nat) : Int)), .int (iI ((cu : Nat) : Int))])), (a1, .inl (cI, 160, .inl (rN (co)))), (a4, .inl (cI, 60, .inl (rN (ix))))]) S (c_codeAt l D cI cB cZ cO h a1 a2 a3 a4 a5 tt ln ed es ac cu co ix j (by first | assumption | (omega)) (by first | assumption | (omega)) (by first | assumption | (omega))) gX4_character_X0_codeAt rfl ⟨rfl, rfl⟩ (by decide +kernel) ⟨Nat.le_of_ble_eq_true rfl, Nat.le_of_ble_eq_true rfl⟩ hE hP [1, 2, 3] rfl 0 0 rfl rfl rfl hl.1 rfl (Nat.le_of_ble_eq_true rfl) dX4_character_22 ⟨Nat.le_of_ble_eq_true rfl, Nat.le_of_ble_eq_true rfl⟩ ?_
      refine lv_goto (tgt := 30) hx hb dX4_character_25 (by decide) ?_
      exact r_iretO hx hb hr hlocks (rfl) dX4_character_30
  · skip
    exfalso; omega

theorem kX4_author_28 : Cond.fieldLink RX4 28 "PricedUndo" "buffer" "LPricedUndo$Buffer;" ∈ wsX4_author := by decide +kernel
theorem nX4_author_X4 : ∀ w ∈ u_ws RX4 TX4 7, w ∈ wsX4_author := by decide +kernel
set_option maxHeartbeats 4000000 in
set_option maxRecDepth 100000 in
theorem p_author_bad (l : Launch) (D : va_G) (cI cB cZ cO : ClassId) (xp : Nat) (xc : Nat) (xs : Nat) (xq : Nat) (xl : Nat) (ag : Nat) (di : Nat) (h : Nat) (a1 : Nat) (a2 : Nat) (a3 : Nat) (a4 : Nat) (a5 : Nat) (tt : Nat) (ln : Nat) (ed : Nat) (es : Nat) (ac : Nat) (cu : Nat) (x : Int) (hln : ln ≤ 60) (rx : rg x) (hbad : ¬ (0 ≤ x ∧ x < (ln : Int))) : Met l yX4_author wsX4_author ({ frames := 1, cells := 0, slots := 0, locals := 21 }) (va_Pc [.ref xp, .int (iI (x))] (RO D cI cB cZ cO [(xp, .inr (4, [.ref xc, .ref xs, .ref h, .ref xq, .ref xl, .int (iI ((ag : Nat) : Int)), .int (iI ((di : Nat) : Int))])), (h, .inr (0, [.ref a1, .ref a2, .ref a3, .int (iI ((tt : Nat) : Int)), .ref a4, .int (iI ((ln : Nat) : Int)), .ref a5, .int (iI ((ed : Nat) : Int)), .int (iI ((es : Nat) : Int)), .int (iI ((ac : Nat) : Int)), .int (iI ((cu : Nat) : Int))]))])) (QO (-1)) 0 0 (fun _ => False) := by
  refine startO (cc := cX4_author) (maxL := 3) (ret := (some .int)) (by decide) rfl (Nat.le_of_ble_eq_true rfl) ?_
  intro p e s m below meth c S hr hlocks hE hP ls hl
  have hx := S.1
  have hb := S.2.1
  have hown := S.2.2.2.1
  have hts := S.2.2.2.2
  have hK := hE.1
  have hl : lv_has ls 3 [(0, .ref xp), (1, .int (iI (x)))] := hl
  refine lv_aload_n hx hb dX4_author_0 rfl (lv_at hl 0 rfl) ?_
  refine va_get (D := D) (ci := 4) (v := .ref h) (C := RX4) (T := TX4) (N := 7) hx hb hts nX4_author_X4 hown hK hP 0 rfl rfl 2 (by decide) (hts _ kX4_author_28) (fun _ h9 => h9) rfl dX4_author_1 ?_
  refine lv_iload_n hx hb dX4_author_4 rfl (lv_at hl 1 rfl) ?_
  refine callVO (n := 1) (As := [.int (iI (x))]) (rest := []) (wc := [(h, .inr (0, [.ref a1, .ref a2, .ref a3, .int (iI ((tt : Nat) : Int)), .ref a4, .int (iI ((ln : Nat) : Int)), .ref a5, .int (iI ((ed : Nat) : Int)), .int (iI ((es : Nat) : Int)), .int (iI ((ac : Nat) : Int)), .int (iI ((cu : Nat) : Int))]))]) S (c_hasPlace l D cI cB cZ cO h a1 a2 a3 a4 a5 tt ln ed es ac cu x (by first | assumption | (omega)) (by first | assumption | (omega))) gX4_author_X0_hasPlace rfl ⟨rfl, rfl⟩ (by decide +kernel) ⟨Nat.le_of_ble_eq_true rfl, Nat.le_of_ble_eq_true rfl⟩ hE hP [1] rfl 0 0 rfl rfl rfl hl.1 rfl (Nat.le_of_ble_eq_true rfl) dX4_author_5 ⟨Nat.le_of_ble_eq_true rfl, Nat.le_of_ble_eq_true rfl⟩ ?_
  refine r_ifb_ne (tgt := 13) hx hb dX4_author_8 (by decide) (fun c_1 => ?_) (fun c_1 => ?_)
  · skip
    exfalso; exact hbad (by assumption)
  · skip
    refine r_iconst hx hb dX4_author_11 ?_
    exact r_iretO hx hb hr hlocks (rfl) dX4_author_12

set_option maxHeartbeats 4000000 in
set_option maxRecDepth 100000 in
theorem p_author (l : Launch) (D : va_G) (cI cB cZ cO : ClassId) (xp : Nat) (xc : Nat) (xs : Nat) (xq : Nat) (xl : Nat) (ag : Nat) (di : Nat) (h : Nat) (a1 : Nat) (a2 : Nat) (a3 : Nat) (a4 : Nat) (a5 : Nat) (tt : Nat) (ln : Nat) (ed : Nat) (es : Nat) (ac : Nat) (cu : Nat) (ow : Nat → Nat) (ix : Nat → Nat) (j : Nat) (hln : ln ≤ 60) (hj : j < ln) (hix : ∀ j, ix j < 160) (how : ∀ k, ow k < 65536) : Met l yX4_author wsX4_author ({ frames := 2, cells := 0, slots := 0, locals := 42 }) (va_Pc [.ref xp, .int (iI ((j : Nat) : Int))] (RO D cI cB cZ cO [(xp, .inr (4, [.ref xc, .ref xs, .ref h, .ref xq, .ref xl, .int (iI ((ag : Nat) : Int)), .int (iI ((di : Nat) : Int))])), (h, .inr (0, [.ref a1, .ref a2, .ref a3, .int (iI ((tt : Nat) : Int)), .ref a4, .int (iI ((ln : Nat) : Int)), .ref a5, .int (iI ((ed : Nat) : Int)), .int (iI ((es : Nat) : Int)), .int (iI ((ac : Nat) : Int)), .int (iI ((cu : Nat) : Int))])), (a2, .inl (cI, 160, .inl (rN (ow)))), (a4, .inl (cI, 60, .inl (rN (ix))))])) (QO (if ow (ix j) = 0 then -9 else ((popc (ow (ix j) - 1) : Nat) : Int))) 0 0 (fun _ => False) := by
  refine startO (cc := cX4_author) (maxL := 3) (ret := (some .int)) (by decide) rfl (Nat.le_of_ble_eq_true rfl) ?_
  intro p e s m below meth c S hr hlocks hE hP ls hl
  have hx := S.1
  have hb := S.2.1
  have hown := S.2.2.2.1
  have hts := S.2.2.2.2
  have hK := hE.1
  have hl : lv_has ls 3 [(0, .ref xp), (1, .int (iI ((j : Nat) : Int)))] := hl
  have howj := how (ix j)
  refine lv_aload_n hx hb dX4_author_0 rfl (lv_at hl 0 rfl) ?_
  refine va_get (D := D) (ci := 4) (v := .ref h) (C := RX4) (T := TX4) (N := 7) hx hb hts nX4_author_X4 hown hK hP 0 rfl rfl 2 (by decide) (hts _ kX4_author_28) (fun _ h9 => h9) rfl dX4_author_1 ?_
  refine lv_iload_n hx hb dX4_author_4 rfl (lv_at hl 1 rfl) ?_
  refine callVO (n := 1) (As := [.int (iI ((j : Nat) : Int))]) (rest := []) (wc := [(h, .inr (0, [.ref a1, .ref a2, .ref a3, .int (iI ((tt : Nat) : Int)), .ref a4, .int (iI ((ln : Nat) : Int)), .ref a5, .int (iI ((ed : Nat) : Int)), .int (iI ((es : Nat) : Int)), .int (iI ((ac : Nat) : Int)), .int (iI ((cu : Nat) : Int))]))]) S (c_hasPlace l D cI cB cZ cO h a1 a2 a3 a4 a5 tt ln ed es ac cu (((j : Nat) : Int)) (by first | assumption | (first | omega | (rw [if_pos (by omega)]) | (rw [if_neg (by omega)]))) (by first | assumption | (first | omega | (rw [if_pos (by omega)]) | (rw [if_neg (by omega)])))) gX4_author_X0_hasPlace rfl ⟨rfl, rfl⟩ (by decide +kernel) ⟨Nat.le_of_ble_eq_true rfl, Nat.le_of_ble_eq_true rfl⟩ hE hP [1] rfl 0 0 rfl rfl rfl hl.1 rfl (Nat.le_of_ble_eq_true rfl) dX4_author_5 ⟨Nat.le_of_ble_eq_true rfl, Nat.le_of_ble_eq_true rfl⟩ ?_
  refine r_ifb_ne (tgt := 13) hx hb dX4_author_8 (by decide) (fun c_1 => ?_) (fun c_1 => ?_)
  · skip
    refine lv_aload_n hx hb dX4_author_13 rfl (lv_at hl 0 rfl) ?_
    refine va_get (D := D) (ci := 4) (v := .ref h) (C := RX4) (T := TX4) (N := 7) hx hb hts nX4_author_X4 hown hK hP 0 rfl rfl 2 (by decide) (hts _ kX4_author_28) (fun _ h9 => h9) rfl dX4_author_14 ?_
    refine lv_iload_n hx hb dX4_author_17 rfl (lv_at hl 1 rfl) ?_
    refine callVO (n := 1) (As := [.int (iI ((j : Nat) : Int))]) (rest := []) (wc := [(h, .inr (0, [.ref a1, .ref a2, .ref a3, .int (iI ((tt : Nat) : Int)), .ref a4, .int (iI ((ln : Nat) : Int)), .ref a5, .int (iI ((ed : Nat) : Int)), .int (iI ((es : Nat) : Int)), .int (iI ((ac : Nat) : Int)), .int (iI ((cu : Nat) : Int))])), (a2, .inl (cI, 160, .inl (rN (ow)))), (a4, .inl (cI, 60, .inl (rN (ix))))]) S (c_ownerAt l D cI cB cZ cO h a1 a2 a3 a4 a5 tt ln ed es ac cu ow ix j (by first | assumption | (first | omega | (rw [if_pos (by omega)]) | (rw [if_neg (by omega)]))) (by first | assumption | (first | omega | (rw [if_pos (by omega)]) | (rw [if_neg (by omega)]))) (by first | assumption | (first | omega | (rw [if_pos (by omega)]) | (rw [if_neg (by omega)])))) gX4_author_X0_ownerAt rfl ⟨rfl, rfl⟩ (by decide +kernel) ⟨Nat.le_of_ble_eq_true rfl, Nat.le_of_ble_eq_true rfl⟩ hE hP [1, 2, 3] rfl 0 0 rfl rfl rfl hl.1 rfl (Nat.le_of_ble_eq_true rfl) dX4_author_18 ⟨Nat.le_of_ble_eq_true rfl, Nat.le_of_ble_eq_true rfl⟩ ?_
    refine lv_istore_n (lv' := [(2, .int (iI ((ow (ix j) : Nat) : Int))), (0, .ref xp), (1, .int (iI ((j : Nat) : Int)))]) hx hb dX4_author_21 rfl hl (by decide) rfl (fun ls hl => ?_)
    refine lv_iload_n hx hb dX4_author_22 rfl (lv_at hl 0 rfl) ?_
    refine r_if_ne (tgt := 31) hx hb (by first | omega | (rw [if_pos (by omega)]) | (rw [if_neg (by omega)])) dX4_author_23 (by decide) (fun c_2 => ?_) (fun c_2 => ?_)
    · skip
      refine lv_iload_n hx hb dX4_author_31 rfl (lv_at hl 0 rfl) ?_
      refine callSO (n := 1) (As := [.int (iI ((ow (ix j) : Nat) : Int))]) (rest := []) (wc := []) S (c_numberOf l D cI cB cZ cO (ow (ix j)) (by first | assumption | (first | omega | (rw [if_pos (by omega)]) | (rw [if_neg (by omega)]))) (by first | assumption | (first | omega | (rw [if_pos (by omega)]) | (rw [if_neg (by omega)])))) gX4_author_X4_numberOf rfl ⟨rfl, rfl⟩ (by decide +kernel) ⟨Nat.le_of_ble_eq_true rfl, Nat.le_of_ble_eq_true rfl⟩ hE hP [] rfl rfl hl.1 rfl (Nat.le_of_ble_eq_true rfl) dX4_author_32 ⟨Nat.le_of_ble_eq_true rfl, Nat.le_of_ble_eq_true rfl⟩ ?_
      exact r_iretO hx hb hr hlocks (by first | omega | (rw [if_pos (by omega)]) | (rw [if_neg (by omega)])) dX4_author_35
    · skip
      refine r_bipush hx hb dX4_author_26 (by decide) ?_
      refine lv_goto (tgt := 35) hx hb dX4_author_28 (by decide) ?_
      exact r_iretO hx hb hr hlocks (by first | omega | (rw [if_pos (by omega)]) | (rw [if_neg (by omega)])) dX4_author_35
  · skip
    exfalso; omega
