set_option maxHeartbeats 4000000 in
set_option maxRecDepth 100000 in
theorem c_numberOf (l : Launch) (D : va_G) (cI cB cZ cO : ClassId) (w1 : Nat) (hw0 : 0 < w1) (hw1 : w1 < 65536) : Met l yX4_numberOf wsX4_numberOf ({ frames := 1, cells := 0, slots := 0, locals := 20 }) (va_Pc [.int (iI ((w1 : Nat) : Int))] (RO D cI cB cZ cO [])) (QO ((popc (w1 - 1) : Nat) : Int)) 0 0 (fun _ => False) := by
  refine startO (cc := cX4_numberOf) (maxL := 1) (ret := (some .int)) (by decide) rfl (Nat.le_of_ble_eq_true rfl) ?_
  intro p e s m below meth c S hr hlocks hE hP ls hl
  have hx := S.1
  have hb := S.2.1
  have hown := S.2.2.2.1
  have hts := S.2.2.2.2
  have hK := hE.1
  have hl : lv_has ls 1 [(0, .int (iI ((w1 : Nat) : Int)))] := hl
  refine lv_iload_n hx hb dX4_numberOf_0 rfl (lv_at hl 0 rfl) ?_
  refine r_iconst hx hb dX4_numberOf_1 ?_
  refine r_isub (v := ((w1 - 1 : Nat) : Int)) hx hb (by omega) dX4_numberOf_2 ?_
  refine callFO (n := 1) (As := [.int (iI ((w1 - 1 : Nat) : Int))]) (rest := []) (wc := []) S (c_bitCount l D cI cB cZ cO (w1 - 1) (by first | assumption | (omega))) gX4_numberOf_J6_bitCount_0f7a4 rfl ⟨rfl, rfl⟩ (by decide +kernel) ⟨Nat.le_of_ble_eq_true rfl, Nat.le_of_ble_eq_true rfl⟩ hE hP [] rfl rfl hl.1 rfl (Nat.le_of_ble_eq_true rfl) dX4_numberOf_3 ⟨Nat.le_of_ble_eq_true rfl, Nat.le_of_ble_eq_true rfl⟩ ?_
  exact r_iretO hx hb hr hlocks (rfl) dX4_numberOf_6

set_option maxHeartbeats 4000000 in
set_option maxRecDepth 100000 in
theorem c_row_codeAtN (l : Launch) (D : va_G) (cI cB cZ cO : ClassId) (h : Nat) (a1 : Nat) (n : Nat) (co : Nat → Nat) (ln : Nat) (o : Nat) (hoo : o < ln) (hln : ln ≤ n) (hn : n < 65536) : Met l yX1_codeAt wsX1_codeAt ({ frames := 0, cells := 0, slots := 0, locals := 0 }) (va_Pc [.ref h, .int (iI ((o : Nat) : Int))] (RO D cI cB cZ cO [(h, .inr (1, [.ref a1, .int (iI ((ln : Nat) : Int))])), (a1, .inl (cI, n, .inl (rN (co))))])) (QO ((co o : Nat) : Int)) 0 0 (fun _ => False) := by
  refine startO (cc := cX1_codeAt) (maxL := 2) (ret := (some .int)) (by decide) rfl (Nat.le_of_ble_eq_true rfl) ?_
  intro p e s m below meth c S hr hlocks hE hP ls hl
  have hx := S.1
  have hb := S.2.1
  have hown := S.2.2.2.1
  have hts := S.2.2.2.2
  have hK := hE.1
  have hl : lv_has ls 2 [(0, .ref h), (1, .int (iI ((o : Nat) : Int)))] := hl
  refine lv_iload_n hx hb dX1_codeAt_0 rfl (lv_at hl 1 rfl) ?_
  refine r_if_lt (tgt := 21) hx hb (by omega) dX1_codeAt_1 (by decide) (fun c_1 => ?_) (fun c_1 => ?_)
  · skip
    exfalso; omega
  · skip
    refine lv_iload_n hx hb dX1_codeAt_4 rfl (lv_at hl 1 rfl) ?_
    refine lv_aload_n hx hb dX1_codeAt_5 rfl (lv_at hl 0 rfl) ?_
    refine va_get (D := D) (ci := 1) (v := .int (iI ((ln : Nat) : Int))) (C := RX1) (T := TX1) (N := 2) hx hb hts nX1_codeAt_X1 hown hK hP 0 rfl rfl 1 (by decide) (hts _ kX1_codeAt_21) (fun _ h9 => h9) rfl dX1_codeAt_6 ?_
    refine r_icmp_ge (tgt := 21) hx hb (by omega) (by omega) dX1_codeAt_9 (by decide) (fun c_2 => ?_) (fun c_2 => ?_)
    · skip
      exfalso; omega
    · skip
      refine lv_aload_n hx hb dX1_codeAt_12 rfl (lv_at hl 0 rfl) ?_
      refine va_get (D := D) (ci := 1) (v := .ref a1) (C := RX1) (T := TX1) (N := 2) hx hb hts nX1_codeAt_X1 hown hK hP 0 rfl rfl 0 (by decide) (hts _ kX1_codeAt_15) (fun _ h9 => h9) rfl dX1_codeAt_13 ?_
      refine lv_iload_n hx hb dX1_codeAt_16 rfl (lv_at hl 1 rfl) ?_
      refine r_ialdN hx hb hK hP 1 0 rfl rfl (o) (rfl) (by omega) (by omega) dX1_codeAt_17 ?_
      refine lv_goto (tgt := 23) hx hb dX1_codeAt_18 (by decide) ?_
      exact r_iretO hx hb hr hlocks (rfl) dX1_codeAt_23

theorem kX0_codeAt_9 : Cond.fieldLink RX0 9 "PricedUndo$Buffer" "codes" "[I" ∈ wsX0_codeAt := by decide +kernel
theorem nX0_codeAt_X0 : ∀ w ∈ u_ws RX0 TX0 11, w ∈ wsX0_codeAt := by decide +kernel
theorem kX0_codeAt_21 : Cond.fieldLink RX0 21 "PricedUndo$Buffer" "indexes" "[I" ∈ wsX0_codeAt := by decide +kernel
set_option maxHeartbeats 4000000 in
set_option maxRecDepth 100000 in
theorem c_codeAt (l : Launch) (D : va_G) (cI cB cZ cO : ClassId) (h : Nat) (a1 : Nat) (a2 : Nat) (a3 : Nat) (a4 : Nat) (a5 : Nat) (tt : Nat) (ln : Nat) (ed : Nat) (es : Nat) (ac : Nat) (cu : Nat) (co : Nat → Nat) (ix : Nat → Nat) (q1 : Nat) (hq : q1 < ln) (hln : ln ≤ 60) (hix : ∀ j, ix j < 160) : Met l yX0_codeAt wsX0_codeAt ({ frames := 1, cells := 0, slots := 0, locals := 21 }) (va_Pc [.ref h, .int (iI ((q1 : Nat) : Int))] (RO D cI cB cZ cO [(h, .inr (0, [.ref a1, .ref a2, .ref a3, .int (iI ((tt : Nat) : Int)), .ref a4, .int (iI ((ln : Nat) : Int)), .ref a5, .int (iI ((ed : Nat) : Int)), .int (iI ((es : Nat) : Int)), .int (iI ((ac : Nat) : Int)), .int (iI ((cu : Nat) : Int))])), (a1, .inl (cI, 160, .inl (rN (co)))), (a4, .inl (cI, 60, .inl (rN (ix))))])) (QO ((co (ix q1) : Nat) : Int)) 0 0 (fun _ => False) := by
  refine startO (cc := cX0_codeAt) (maxL := 2) (ret := (some .int)) (by decide) rfl (Nat.le_of_ble_eq_true rfl) ?_
  intro p e s m below meth c S hr hlocks hE hP ls hl
  have hx := S.1
  have hb := S.2.1
  have hown := S.2.2.2.1
  have hts := S.2.2.2.2
  have hK := hE.1
  have hl : lv_has ls 2 [(0, .ref h), (1, .int (iI ((q1 : Nat) : Int)))] := hl
  refine lv_aload_n hx hb dX0_codeAt_0 rfl (lv_at hl 0 rfl) ?_
  refine lv_iload_n hx hb dX0_codeAt_1 rfl (lv_at hl 1 rfl) ?_
  refine callVO (n := 1) (As := [.int (iI ((q1 : Nat) : Int))]) (rest := []) (wc := [(h, .inr (0, [.ref a1, .ref a2, .ref a3, .int (iI ((tt : Nat) : Int)), .ref a4, .int (iI ((ln : Nat) : Int)), .ref a5, .int (iI ((ed : Nat) : Int)), .int (iI ((es : Nat) : Int)), .int (iI ((ac : Nat) : Int)), .int (iI ((cu : Nat) : Int))]))]) S (c_hasPlace l D cI cB cZ cO h a1 a2 a3 a4 a5 tt ln ed es ac cu (((q1 : Nat) : Int)) (by first | assumption | (first | omega | exact hix _)) (by first | assumption | (first | omega | exact hix _))) gX0_codeAt_X0_hasPlace rfl ⟨rfl, rfl⟩ (by decide +kernel) ⟨Nat.le_of_ble_eq_true rfl, Nat.le_of_ble_eq_true rfl⟩ hE hP [0] rfl 0 0 rfl rfl rfl hl.1 rfl (Nat.le_of_ble_eq_true rfl) dX0_codeAt_2 ⟨Nat.le_of_ble_eq_true rfl, Nat.le_of_ble_eq_true rfl⟩ ?_
  refine r_ifb_eq (tgt := 22) hx hb dX0_codeAt_5 (by decide) (fun c_1 => ?_) (fun c_1 => ?_)
  · skip
    exfalso; omega
  · skip
    refine lv_aload_n hx hb dX0_codeAt_8 rfl (lv_at hl 0 rfl) ?_
    refine va_get (D := D) (ci := 0) (v := .ref a1) (C := RX0) (T := TX0) (N := 11) hx hb hts nX0_codeAt_X0 hown hK hP 0 rfl rfl 0 (by decide) (hts _ kX0_codeAt_9) (fun _ h9 => h9) rfl dX0_codeAt_9 ?_
    refine lv_aload_n hx hb dX0_codeAt_12 rfl (lv_at hl 0 rfl) ?_
    refine va_get (D := D) (ci := 0) (v := .ref a4) (C := RX0) (T := TX0) (N := 11) hx hb hts nX0_codeAt_X0 hown hK hP 0 rfl rfl 4 (by decide) (hts _ kX0_codeAt_21) (fun _ h9 => h9) rfl dX0_codeAt_13 ?_
    refine lv_iload_n hx hb dX0_codeAt_16 rfl (lv_at hl 1 rfl) ?_
    refine r_ialdN hx hb hK hP 2 0 rfl rfl (q1) (rfl) (by first | omega | exact hix _) (by decide) dX0_codeAt_17 ?_
    refine r_ialdN hx hb hK hP 1 0 rfl rfl (ix q1) (rfl) (by first | omega | exact hix _) (by decide) dX0_codeAt_18 ?_
    refine lv_goto (tgt := 24) hx hb dX0_codeAt_19 (by decide) ?_
    exact r_iretO hx hb hr hlocks (rfl) dX0_codeAt_24

theorem kX0_ownerAt_15 : Cond.fieldLink RX0 15 "PricedUndo$Buffer" "owners" "[I" ∈ wsX0_ownerAt := by decide +kernel
theorem nX0_ownerAt_X0 : ∀ w ∈ u_ws RX0 TX0 11, w ∈ wsX0_ownerAt := by decide +kernel
theorem kX0_ownerAt_21 : Cond.fieldLink RX0 21 "PricedUndo$Buffer" "indexes" "[I" ∈ wsX0_ownerAt := by decide +kernel
set_option maxHeartbeats 4000000 in
set_option maxRecDepth 100000 in
theorem c_ownerAt (l : Launch) (D : va_G) (cI cB cZ cO : ClassId) (h : Nat) (a1 : Nat) (a2 : Nat) (a3 : Nat) (a4 : Nat) (a5 : Nat) (tt : Nat) (ln : Nat) (ed : Nat) (es : Nat) (ac : Nat) (cu : Nat) (ow : Nat → Nat) (ix : Nat → Nat) (q1 : Nat) (hq : q1 < ln) (hln : ln ≤ 60) (hix : ∀ j, ix j < 160) : Met l yX0_ownerAt wsX0_ownerAt ({ frames := 1, cells := 0, slots := 0, locals := 21 }) (va_Pc [.ref h, .int (iI ((q1 : Nat) : Int))] (RO D cI cB cZ cO [(h, .inr (0, [.ref a1, .ref a2, .ref a3, .int (iI ((tt : Nat) : Int)), .ref a4, .int (iI ((ln : Nat) : Int)), .ref a5, .int (iI ((ed : Nat) : Int)), .int (iI ((es : Nat) : Int)), .int (iI ((ac : Nat) : Int)), .int (iI ((cu : Nat) : Int))])), (a2, .inl (cI, 160, .inl (rN (ow)))), (a4, .inl (cI, 60, .inl (rN (ix))))])) (QO ((ow (ix q1) : Nat) : Int)) 0 0 (fun _ => False) := by
  refine startO (cc := cX0_ownerAt) (maxL := 2) (ret := (some .int)) (by decide) rfl (Nat.le_of_ble_eq_true rfl) ?_
  intro p e s m below meth c S hr hlocks hE hP ls hl
  have hx := S.1
  have hb := S.2.1
  have hown := S.2.2.2.1
  have hts := S.2.2.2.2
  have hK := hE.1
  have hl : lv_has ls 2 [(0, .ref h), (1, .int (iI ((q1 : Nat) : Int)))] := hl
  refine lv_aload_n hx hb dX0_ownerAt_0 rfl (lv_at hl 0 rfl) ?_
  refine lv_iload_n hx hb dX0_ownerAt_1 rfl (lv_at hl 1 rfl) ?_
  refine callVO (n := 1) (As := [.int (iI ((q1 : Nat) : Int))]) (rest := []) (wc := [(h, .inr (0, [.ref a1, .ref a2, .ref a3, .int (iI ((tt : Nat) : Int)), .ref a4, .int (iI ((ln : Nat) : Int)), .ref a5, .int (iI ((ed : Nat) : Int)), .int (iI ((es : Nat) : Int)), .int (iI ((ac : Nat) : Int)), .int (iI ((cu : Nat) : Int))]))]) S (c_hasPlace l D cI cB cZ cO h a1 a2 a3 a4 a5 tt ln ed es ac cu (((q1 : Nat) : Int)) (by first | assumption | (first | omega | exact hix _)) (by first | assumption | (first | omega | exact hix _))) gX0_ownerAt_X0_hasPlace rfl ⟨rfl, rfl⟩ (by decide +kernel) ⟨Nat.le_of_ble_eq_true rfl, Nat.le_of_ble_eq_true rfl⟩ hE hP [0] rfl 0 0 rfl rfl rfl hl.1 rfl (Nat.le_of_ble_eq_true rfl) dX0_ownerAt_2 ⟨Nat.le_of_ble_eq_true rfl, Nat.le_of_ble_eq_true rfl⟩ ?_
  refine r_ifb_eq (tgt := 22) hx hb dX0_ownerAt_5 (by decide) (fun c_1 => ?_) (fun c_1 => ?_)
  · skip
    exfalso; omega
  · skip
    refine lv_aload_n hx hb dX0_ownerAt_8 rfl (lv_at hl 0 rfl) ?_
    refine va_get (D := D) (ci := 0) (v := .ref a2) (C := RX0) (T := TX0) (N := 11) hx hb hts nX0_ownerAt_X0 hown hK hP 0 rfl rfl 1 (by decide) (hts _ kX0_ownerAt_15) (fun _ h9 => h9) rfl dX0_ownerAt_9 ?_
    refine lv_aload_n hx hb dX0_ownerAt_12 rfl (lv_at hl 0 rfl) ?_
    refine va_get (D := D) (ci := 0) (v := .ref a4) (C := RX0) (T := TX0) (N := 11) hx hb hts nX0_ownerAt_X0 hown hK hP 0 rfl rfl 4 (by decide) (hts _ kX0_ownerAt_21) (fun _ h9 => h9) rfl dX0_ownerAt_13 ?_
    refine lv_iload_n hx hb dX0_ownerAt_16 rfl (lv_at hl 1 rfl) ?_
    refine r_ialdN hx hb hK hP 2 0 rfl rfl (q1) (rfl) (by first | omega | exact hix _) (by decide) dX0_ownerAt_17 ?_
    refine r_ialdN hx hb hK hP 1 0 rfl rfl (ix q1) (rfl) (by first | omega | exact hix _) (by decide) dX0_ownerAt_18 ?_
    refine lv_goto (tgt := 23) hx hb dX0_ownerAt_19 (by decide) ?_
    exact r_iretO hx hb hr hlocks (rfl) dX0_ownerAt_23

theorem kX0_hasEdits_50 : Cond.fieldLink RX0 50 "PricedUndo$Buffer" "edits" "I" ∈ wsX0_hasEdits := by decide +kernel
theorem nX0_hasEdits_X0 : ∀ w ∈ u_ws RX0 TX0 11, w ∈ wsX0_hasEdits := by decide +kernel
set_option maxHeartbeats 4000000 in
set_option maxRecDepth 100000 in
theorem c_hasEdits (l : Launch) (D : va_G) (cI cB cZ cO : ClassId) (h : Nat) (a1 : Nat) (a2 : Nat) (a3 : Nat) (a4 : Nat) (a5 : Nat) (tt : Nat) (ln : Nat) (ed : Nat) (es : Nat) (ac : Nat) (cu : Nat) (x : Int) (hed : ed ≤ 16) (rx : rg x) : Met l yX0_hasEdits wsX0_hasEdits ({ frames := 0, cells := 0, slots := 0, locals := 0 }) (va_Pc [.ref h, .int (iI (x))] (RO D cI cB cZ cO [(h, .inr (0, [.ref a1, .ref a2, .ref a3, .int (iI ((tt : Nat) : Int)), .ref a4, .int (iI ((ln : Nat) : Int)), .ref a5, .int (iI ((ed : Nat) : Int)), .int (iI ((es : Nat) : Int)), .int (iI ((ac : Nat) : Int)), .int (iI ((cu : Nat) : Int))]))])) (QO (bI (0 ≤ x ∧ x < ((2 ^ ed : Nat) : Int)))) 0 0 (fun _ => False) := by
  refine startO (cc := cX0_hasEdits) (maxL := 2) (ret := (some .boolean)) (by decide) rfl (Nat.le_of_ble_eq_true rfl) ?_
  intro p e s m below meth c S hr hlocks hE hP ls hl
  have hx := S.1
  have hb := S.2.1
  have hown := S.2.2.2.1
  have hts := S.2.2.2.2
  have hK := hE.1
  have hl : lv_has ls 2 [(0, .ref h), (1, .int (iI (x)))] := hl
  have hsh : x.toNat >>> ed = 0 ↔ x.toNat < 2 ^ ed := by rw [Nat.shiftRight_eq_div_pow, Nat.div_eq_zero_iff_lt (Nat.two_pow_pos ed)]
  have hsl := Nat.shiftRight_le x.toNat ed
  refine lv_iload_n hx hb dX0_hasEdits_0 rfl (lv_at hl 1 rfl) ?_
  refine r_if_lt (tgt := 17) hx hb (by first | omega | (have h9 := hsh.mp (by omega); omega) | (intro h7; have h9 := hsh.mpr (by omega); omega)) dX0_hasEdits_1 (by decide) (fun c_1 => ?_) (fun c_1 => ?_)
  · skip
    refine r_iconst hx hb dX0_hasEdits_17 ?_
    exact r_zretO hx hb hr hlocks ((bI_f (by first | omega | (have h9 := hsh.mp (by omega); omega) | (intro h7; have h9 := hsh.mpr (by omega); omega))).symm) (Or.inl rfl) dX0_hasEdits_18
  · skip
    refine lv_iload_n hx hb dX0_hasEdits_4 rfl (lv_at hl 1 rfl) ?_
    refine lv_aload_n hx hb dX0_hasEdits_5 rfl (lv_at hl 0 rfl) ?_
    refine va_get (D := D) (ci := 0) (v := .int (iI ((ed : Nat) : Int))) (C := RX0) (T := TX0) (N := 11) hx hb hts nX0_hasEdits_X0 hown hK hP 0 rfl rfl 7 (by decide) (hts _ kX0_hasEdits_50) (fun _ h9 => h9) rfl dX0_hasEdits_6 ?_
    refine r_ishr hx hb (x.toNat) (ed) (by first | omega | (have h9 := hsh.mp (by omega); omega) | (intro h7; have h9 := hsh.mpr (by omega); omega)) (rfl) (by first | omega | (have h9 := hsh.mp (by omega); omega) | (intro h7; have h9 := hsh.mpr (by omega); omega)) (by first | omega | (have h9 := hsh.mp (by omega); omega) | (intro h7; have h9 := hsh.mpr (by omega); omega)) dX0_hasEdits_9 ?_
    refine r_if_ne (tgt := 17) hx hb (rg_nat hsl (by omega)) dX0_hasEdits_10 (by decide) (fun c_2 => ?_) (fun c_2 => ?_)
    · skip
      refine r_iconst hx hb dX0_hasEdits_17 ?_
      exact r_zretO hx hb hr hlocks ((bI_f (by first | omega | (have h9 := hsh.mp (by omega); omega) | (intro h7; have h9 := hsh.mpr (by omega); omega))).symm) (Or.inl rfl) dX0_hasEdits_18
    · skip
      refine r_iconst hx hb dX0_hasEdits_13 ?_
      refine lv_goto (tgt := 18) hx hb dX0_hasEdits_14 (by decide) ?_
      exact r_zretO hx hb hr hlocks ((bI_t (by first | omega | (have h9 := hsh.mp (by omega); omega) | (intro h7; have h9 := hsh.mpr (by omega); omega))).symm) (Or.inr rfl) dX0_hasEdits_18

theorem kX0_basesOf_24 : Cond.fieldLink RX0 24 "PricedUndo$Buffer" "bases" "[I" ∈ wsX0_basesOf := by decide +kernel
theorem nX0_basesOf_X0 : ∀ w ∈ u_ws RX0 TX0 11, w ∈ wsX0_basesOf := by decide +kernel
set_option maxHeartbeats 4000000 in
set_option maxRecDepth 100000 in
theorem c_basesOf (l : Launch) (D : va_G) (cI cB cZ cO : ClassId) (h : Nat) (a1 : Nat) (a2 : Nat) (a3 : Nat) (a4 : Nat) (a5 : Nat) (tt : Nat) (ln : Nat) (ed : Nat) (es : Nat) (ac : Nat) (cu : Nat) (ba : Nat → Nat) (e1 : Nat) (he : e1 < ed) (hed : ed ≤ 16) : Met l yX0_basesOf wsX0_basesOf ({ frames := 1, cells := 0, slots := 0, locals := 21 }) (va_Pc [.ref h, .int (iI ((e1 : Nat) : Int))] (RO D cI cB cZ cO [(h, .inr (0, [.ref a1, .ref a2, .ref a3, .int (iI ((tt : Nat) : Int)), .ref a4, .int (iI ((ln : Nat) : Int)), .ref a5, .int (iI ((ed : Nat) : Int)), .int (iI ((es : Nat) : Int)), .int (iI ((ac : Nat) : Int)), .int (iI ((cu : Nat) : Int))])), (a5, .inl (cI, 16, .inl (rN (ba))))])) (QO ((ba e1 : Nat) : Int)) 0 0 (fun _ => False) := by
  refine startO (cc := cX0_basesOf) (maxL := 2) (ret := (some .int)) (by decide) rfl (Nat.le_of_ble_eq_true rfl) ?_
  intro p e s m below meth c S hr hlocks hE hP ls hl
  have hx := S.1
  have hb := S.2.1
  have hown := S.2.2.2.1
  have hts := S.2.2.2.2
  have hK := hE.1
  have hl : lv_has ls 2 [(0, .ref h), (1, .int (iI ((e1 : Nat) : Int)))] := hl
  refine lv_aload_n hx hb dX0_basesOf_0 rfl (lv_at hl 0 rfl) ?_
  refine lv_iload_n hx hb dX0_basesOf_1 rfl (lv_at hl 1 rfl) ?_
  refine callVO (n := 1) (As := [.int (iI ((e1 : Nat) : Int))]) (rest := []) (wc := [(h, .inr (0, [.ref a1, .ref a2, .ref a3, .int (iI ((tt : Nat) : Int)), .ref a4, .int (iI ((ln : Nat) : Int)), .ref a5, .int (iI ((ed : Nat) : Int)), .int (iI ((es : Nat) : Int)), .int (iI ((ac : Nat) : Int)), .int (iI ((cu : Nat) : Int))]))]) S (c_hasEdit l D cI cB cZ cO h a1 a2 a3 a4 a5 tt ln ed es ac cu (((e1 : Nat) : Int)) (by first | assumption | (omega)) (by first | assumption | (omega))) gX0_basesOf_X0_hasEdit rfl ⟨rfl, rfl⟩ (by decide +kernel) ⟨Nat.le_of_ble_eq_true rfl, Nat.le_of_ble_eq_true rfl⟩ hE hP [0] rfl 0 0 rfl rfl rfl hl.1 rfl (Nat.le_of_ble_eq_true rfl) dX0_basesOf_2 ⟨Nat.le_of_ble_eq_true rfl, Nat.le_of_ble_eq_true rfl⟩ ?_
  refine r_ifb_eq (tgt := 17) hx hb dX0_basesOf_5 (by decide) (fun c_1 => ?_) (fun c_1 => ?_)
  · skip
    exfalso; omega
  · skip
    refine lv_aload_n hx hb dX0_basesOf_8 rfl (lv_at hl 0 rfl) ?_
    refine va_get (D := D) (ci := 0) (v := .ref a5) (C := RX0) (T := TX0) (N := 11) hx hb hts nX0_basesOf_X0 hown hK hP 0 rfl rfl 6 (by decide) (hts _ kX0_basesOf_24) (fun _ h9 => h9) rfl dX0_basesOf_9 ?_
    refine lv_iload_n hx hb dX0_basesOf_12 rfl (lv_at hl 1 rfl) ?_
    refine r_ialdN hx hb hK hP 1 0 rfl rfl (e1) (rfl) (by omega) (by decide) dX0_basesOf_13 ?_
    refine lv_goto (tgt := 18) hx hb dX0_basesOf_14 (by decide) ?_
    exact r_iretO hx hb hr hlocks (rfl) dX0_basesOf_18

theorem iX0_basesThrough_X4 : Cond.initialized RX4 ∈ wsX0_basesThrough := by decide +kernel
theorem sX0_basesThrough_X4_numberOf : Cond.static yX4_numberOf ∈ wsX0_basesThrough := by decide +kernel
set_option maxHeartbeats 4000000 in
set_option maxRecDepth 100000 in
theorem c_basesThrough (l : Launch) (D : va_G) (cI cB cZ cO : ClassId) (h : Nat) (a1 : Nat) (a2 : Nat) (a3 : Nat) (a4 : Nat) (a5 : Nat) (tt : Nat) (ln : Nat) (ed : Nat) (es : Nat) (ac : Nat) (cu : Nat) (ba : Nat → Nat) (w1 : Nat) (hw : w1 = 0 ∨ popc (w1 - 1) < ed) (hw1 : w1 < 65536) (hed : ed ≤ 16) : Met l yX0_basesThrough wsX0_basesThrough ({ frames := 2, cells := 0, slots := 0, locals := 42 }) (va_Pc [.ref h, .int (iI ((w1 : Nat) : Int))] (RO D cI cB cZ cO [(h, .inr (0, [.ref a1, .ref a2, .ref a3, .int (iI ((tt : Nat) : Int)), .ref a4, .int (iI ((ln : Nat) : Int)), .ref a5, .int (iI ((ed : Nat) : Int)), .int (iI ((es : Nat) : Int)), .int (iI ((ac : Nat) : Int)), .int (iI ((cu : Nat) : Int))])), (a5, .inl (cI, 16, .inl (rN (ba))))])) (QO ((bth ba w1 : Nat) : Int)) 0 0 (fun _ => False) := by
  refine startO (cc := cX0_basesThrough) (maxL := 2) (ret := (some .int)) (by decide) rfl (Nat.le_of_ble_eq_true rfl) ?_
  intro p e s m below meth c S hr hlocks hE hP ls hl
  have hx := S.1
  have hb := S.2.1
  have hown := S.2.2.2.1
  have hts := S.2.2.2.2
  have hK := hE.1
  have hl : lv_has ls 2 [(0, .ref h), (1, .int (iI ((w1 : Nat) : Int)))] := hl
  refine lv_iload_n hx hb dX0_basesThrough_0 rfl (lv_at hl 1 rfl) ?_
  refine r_if_ne (tgt := 8) hx hb (by first | omega | (rw [bth_0 (by omega)]; rfl) | (rw [bth_1 (by omega)])) dX0_basesThrough_1 (by decide) (fun c_1 => ?_) (fun c_1 => ?_)
  · skip
    refine lv_iload_n hx hb dX0_basesThrough_8 rfl (lv_at hl 1 rfl) ?_
    refine lv_aload_n hx hb dX0_basesThrough_9 rfl (lv_at hl 0 rfl) ?_
    refine lv_iload_n hx hb dX0_basesThrough_10 rfl (lv_at hl 1 rfl) ?_
    refine callNO (n := 1) (As := [.int (iI ((w1 : Nat) : Int))]) (rest := [.ref h, .int (iI ((w1 : Nat) : Int))]) (wc := []) S (c_numberOf l D cI cB cZ cO w1 (by first | assumption | (first | omega | (rw [bth_0 (by omega)]; rfl) | (rw [bth_1 (by omega)]))) (by first | assumption | (first | omega | (rw [bth_0 (by omega)]; rfl) | (rw [bth_1 (by omega)])))) gX0_basesThrough_X4_numberOf_n106 rfl ⟨rfl, rfl⟩ (hE.2.m 3 rfl) (hts _ iX0_basesThrough_X4) (hts _ sX0_basesThrough_X4_numberOf) (by decide +kernel) ⟨Nat.le_of_ble_eq_true rfl, Nat.le_of_ble_eq_true rfl⟩ hE hP [] rfl rfl hl.1 rfl (Nat.le_of_ble_eq_true rfl) dX0_basesThrough_11 ⟨Nat.le_of_ble_eq_true rfl, Nat.le_of_ble_eq_true rfl⟩ ?_
    refine callVO (n := 1) (As := [.int (iI ((popc (w1 - 1) : Nat) : Int))]) (rest := [.int (iI ((w1 : Nat) : Int))]) (wc := [(h, .inr (0, [.ref a1, .ref a2, .ref a3, .int (iI ((tt : Nat) : Int)), .ref a4, .int (iI ((ln : Nat) : Int)), .ref a5, .int (iI ((ed : Nat) : Int)), .int (iI ((es : Nat) : Int)), .int (iI ((ac : Nat) : Int)), .int (iI ((cu : Nat) : Int))])), (a5, .inl (cI, 16, .inl (rN (ba))))]) S (c_basesOf l D cI cB cZ cO h a1 a2 a3 a4 a5 tt ln ed es ac cu ba (popc (w1 - 1)) (by first | assumption | (first | omega | (rw [bth_0 (by omega)]; rfl) | (rw [bth_1 (by omega)]))) (by first | assumption | (first | omega | (rw [bth_0 (by omega)]; rfl) | (rw [bth_1 (by omega)])))) gX0_basesThrough_X0_basesOf rfl ⟨rfl, rfl⟩ (by decide +kernel) ⟨Nat.le_of_ble_eq_true rfl, Nat.le_of_ble_eq_true rfl⟩ hE hP [0, 1] rfl 0 0 rfl rfl rfl hl.1 rfl (Nat.le_of_ble_eq_true rfl) dX0_basesThrough_14 ⟨Nat.le_of_ble_eq_true rfl, Nat.le_of_ble_eq_true rfl⟩ ?_
    refine r_ior hx hb (w1) (ba (popc (w1 - 1))) (rfl) (rfl) dX0_basesThrough_17 ?_
    exact r_iretO hx hb hr hlocks (by first | omega | (rw [bth_0 (by omega)]; rfl) | (rw [bth_1 (by omega)])) dX0_basesThrough_18
  · skip
    refine r_iconst hx hb dX0_basesThrough_4 ?_
    refine lv_goto (tgt := 18) hx hb dX0_basesThrough_5 (by decide) ?_
    exact r_iretO hx hb hr hlocks (by first | omega | (rw [bth_0 (by omega)]; rfl) | (rw [bth_1 (by omega)])) dX0_basesThrough_18

theorem kX0_dependentsOf_50 : Cond.fieldLink RX0 50 "PricedUndo$Buffer" "edits" "I" ∈ wsX0_dependentsOf := by decide +kernel
theorem nX0_dependentsOf_X0 : ∀ w ∈ u_ws RX0 TX0 11, w ∈ wsX0_dependentsOf := by decide +kernel
theorem kX0_dependentsOf_24 : Cond.fieldLink RX0 24 "PricedUndo$Buffer" "bases" "[I" ∈ wsX0_dependentsOf := by decide +kernel
theorem iX0_dependentsOf_X4 : Cond.initialized RX4 ∈ wsX0_dependentsOf := by decide +kernel
theorem sX0_dependentsOf_X4_single : Cond.static yX4_single ∈ wsX0_dependentsOf := by decide +kernel
set_option maxHeartbeats 4000000 in
set_option maxRecDepth 100000 in
theorem c_dependentsOf (l : Launch) (D : va_G) (cI cB cZ cO : ClassId) (h : Nat) (a1 : Nat) (a2 : Nat) (a3 : Nat) (a4 : Nat) (a5 : Nat) (tt : Nat) (ln : Nat) (ed : Nat) (es : Nat) (ac : Nat) (cu : Nat) (ba : Nat → Nat) (st1 : Nat) (hed : ed ≤ 16) (hba : ∀ k, ba k < 65536) : Met l yX0_dependentsOf wsX0_dependentsOf ({ frames := 1, cells := 0, slots := 0, locals := 20 }) (va_Pc [.ref h, .int (iI ((st1 : Nat) : Int))] (RO D cI cB cZ cO [(h, .inr (0, [.ref a1, .ref a2, .ref a3, .int (iI ((tt : Nat) : Int)), .ref a4, .int (iI ((ln : Nat) : Int)), .ref a5, .int (iI ((ed : Nat) : Int)), .int (iI ((es : Nat) : Int)), .int (iI ((ac : Nat) : Int)), .int (iI ((cu : Nat) : Int))])), (a5, .inl (cI, 16, .inl (rN (ba))))])) (QO ((dep ba ed st1 : Nat) : Int)) 0 0 (fun _ => False) := by
  refine startO (cc := cX0_dependentsOf) (maxL := 4) (ret := (some .int)) (by decide) rfl (Nat.le_of_ble_eq_true rfl) ?_
  intro p e s m below meth c S hr hlocks hE hP ls hl
  have hx := S.1
  have hb := S.2.1
  have hown := S.2.2.2.1
  have hts := S.2.2.2.2
  have hK := hE.1
  have hl : lv_has ls 4 [(0, .ref h), (1, .int (iI ((st1 : Nat) : Int)))] := hl
  refine r_iconst hx hb dX0_dependentsOf_0 ?_
  refine lv_istore_n (lv' := [(2, .int (iI 0)), (0, .ref h), (1, .int (iI ((st1 : Nat) : Int)))]) hx hb dX0_dependentsOf_1 rfl hl (by decide) rfl (fun ls hl => ?_)
  refine r_iconst hx hb dX0_dependentsOf_2 ?_
  refine lv_istore_n (lv' := [(3, .int (iI 0)), (2, .int (iI 0)), (0, .ref h), (1, .int (iI ((st1 : Nat) : Int)))]) hx hb dX0_dependentsOf_3 rfl hl (by decide) rfl (fun ls hl => ?_)
  have loop_4 : ∀ (n_4 : Nat) (k : Nat), (ed - k) < n_4 → (k ≤ ed) → ∀ (ls : Array Slot), lv_has ls 4 [(0, .ref h), (1, .int (iI ((st1 : Nat) : Int))), (2, .int (iI ((dep ba k st1 : Nat) : Int))), (3, .int (iI ((k : Nat) : Int)))] → W p l e ({ frames := 1, cells := 0, slots := 0, locals := 20 }) s m ([.ref h, .int (iI ((st1 : Nat) : Int))] : List Value).toArray below meth c s.heap [] 0 0 (MQ below (QO ((dep ba ed st1 : Nat) : Int)) ([.ref h, .int (iI ((st1 : Nat) : Int))] : List Value).toArray s 0 0 (fun _ => False)) (F0 m 4 ls []) := by
    intro n_4
    induction n_4 with
    | zero => intro k h_meas; exact absurd h_meas (Nat.not_lt_zero _)
    | succ n_4 ih_4 =>
      intro k h_m4 ik ls hl
      refine lv_iload_n hx hb dX0_dependentsOf_4 rfl (lv_at hl 3 rfl) ?_
      refine lv_aload_n hx hb dX0_dependentsOf_5 rfl (lv_at hl 0 rfl) ?_
      refine va_get (D := D) (ci := 0) (v := .int (iI ((ed : Nat) : Int))) (C := RX0) (T := TX0) (N := 11) hx hb hts nX0_dependentsOf_X0 hown hK hP 0 rfl rfl 7 (by decide) (hts _ kX0_dependentsOf_50) (fun _ h9 => h9) rfl dX0_dependentsOf_6 ?_
      refine r_icmp_ge (tgt := 36) hx hb (by first | omega | (have h1 := hba k; have h2 := @Nat.and_le_left (ba k) st1; omega) | (rw [show k = ed by omega])) (by first | omega | (have h1 := hba k; have h2 := @Nat.and_le_left (ba k) st1; omega) | (rw [show k = ed by omega])) dX0_dependentsOf_9 (by decide) (fun c_1 => ?_) (fun c_1 => ?_)
      · skip
        refine lv_iload_n hx hb dX0_dependentsOf_36 rfl (lv_at hl 2 rfl) ?_
        exact r_iretO hx hb hr hlocks (by first | omega | (have h1 := hba k; have h2 := @Nat.and_le_left (ba k) st1; omega) | (rw [show k = ed by omega])) dX0_dependentsOf_37
      · skip
        refine lv_aload_n hx hb dX0_dependentsOf_12 rfl (lv_at hl 0 rfl) ?_
        refine va_get (D := D) (ci := 0) (v := .ref a5) (C := RX0) (T := TX0) (N := 11) hx hb hts nX0_dependentsOf_X0 hown hK hP 0 rfl rfl 6 (by decide) (hts _ kX0_dependentsOf_24) (fun _ h9 => h9) rfl dX0_dependentsOf_13 ?_
        refine lv_iload_n hx hb dX0_dependentsOf_16 rfl (lv_at hl 3 rfl) ?_
        refine r_ialdN hx hb hK hP 1 0 rfl rfl (k) (rfl) (by first | omega | (have h1 := hba k; have h2 := @Nat.and_le_left (ba k) st1; omega) | (rw [show k = ed by omega])) (by decide) dX0_dependentsOf_17 ?_
        refine lv_iload_n hx hb dX0_dependentsOf_18 rfl (lv_at hl 1 rfl) ?_
        refine r_iand hx hb (ba k) (st1) (rfl) (rfl) dX0_dependentsOf_19 ?_
        refine r_if_eq (tgt := 30) hx hb (by first | omega | (have h1 := hba k; have h2 := @Nat.and_le_left (ba k) st1; omega) | (rw [show k = ed by omega])) dX0_dependentsOf_20 (by decide) (fun c_2 => ?_) (fun c_2 => ?_)
        · skip
          refine lv_iinc (v := iI ((k + 1 : Nat) : Int)) (lv' := [(3, .int (iI ((k + 1 : Nat) : Int))), (0, .ref h), (1, .int (iI ((st1 : Nat) : Int))), (2, .int (iI ((dep ba k st1 : Nat) : Int)))]) hx hb dX0_dependentsOf_30 hl (k := 3) rfl ((iI_add _ _).trans (ii (rfl))) (by decide) rfl (fun ls hl => ?_)
          refine lv_goto (tgt := 4) hx hb dX0_dependentsOf_33 (by decide) ?_
          have hl : lv_has ls 4 [(3, .int (iI ((k + 1 : Nat) : Int))), (0, .ref h), (1, .int (iI ((st1 : Nat) : Int))), (2, .int (iI ((dep ba (k + 1) st1 : Nat) : Int)))] := lv_chg hl 3 2 rfl (show (((dep ba k st1 : Nat) : Int) : Int) = ((dep ba (k + 1) st1 : Nat) : Int) from by first | (rw [dep_t (by omega)]) | (rw [dep_f (by omega)])) rfl
          exact ih_4 (k + 1) (by first | omega | (have h1 := hba k; have h2 := @Nat.and_le_left (ba k) st1; omega) | (rw [show k = ed by omega])) (by first | assumption | (first | omega | (have h1 := hba k; have h2 := @Nat.and_le_left (ba k) st1; omega) | (rw [show k = ed by omega]))) ls (lv_sub hl [1, 2, 3, 0] rfl)
        · skip
          refine lv_iload_n hx hb dX0_dependentsOf_23 rfl (lv_at hl 2 rfl) ?_
          refine lv_iload_n hx hb dX0_dependentsOf_24 rfl (lv_at hl 3 rfl) ?_
          refine callNO (n := 1) (As := [.int (iI ((k : Nat) : Int))]) (rest := [.int (iI ((dep ba k st1 : Nat) : Int))]) (wc := []) S (c_single l D cI cB cZ cO k (by first | assumption | (first | omega | (have h1 := hba k; have h2 := @Nat.and_le_left (ba k) st1; omega) | (rw [show k = ed by omega])))) gX0_dependentsOf_X4_single_n79 rfl ⟨rfl, rfl⟩ (hE.2.m 4 rfl) (hts _ iX0_dependentsOf_X4) (hts _ sX0_dependentsOf_X4_single) (by decide +kernel) ⟨Nat.le_of_ble_eq_true rfl, Nat.le_of_ble_eq_true rfl⟩ hE hP [] rfl rfl hl.1 rfl (Nat.le_of_ble_eq_true rfl) dX0_dependentsOf_25 ⟨Nat.le_of_ble_eq_true rfl, Nat.le_of_ble_eq_true rfl⟩ ?_
          refine r_ior hx hb (dep ba k st1) (2 ^ k) (rfl) (rfl) dX0_dependentsOf_28 ?_
          refine lv_istore_n (lv' := [(2, .int (iI (((dep ba k st1) ||| (2 ^ k) : Nat) : Int))), (0, .ref h), (1, .int (iI ((st1 : Nat) : Int))), (3, .int (iI ((k : Nat) : Int)))]) hx hb dX0_dependentsOf_29 rfl hl (by decide) rfl (fun ls hl => ?_)
          refine lv_iinc (v := iI ((k + 1 : Nat) : Int)) (lv' := [(3, .int (iI ((k + 1 : Nat) : Int))), (2, .int (iI (((dep ba k st1) ||| (2 ^ k) : Nat) : Int))), (0, .ref h), (1, .int (iI ((st1 : Nat) : Int)))]) hx hb dX0_dependentsOf_30 hl (k := 3) rfl ((iI_add _ _).trans (ii (rfl))) (by decide) rfl (fun ls hl => ?_)
          refine lv_goto (tgt := 4) hx hb dX0_dependentsOf_33 (by decide) ?_
          have hl : lv_has ls 4 [(3, .int (iI ((k + 1 : Nat) : Int))), (2, .int (iI ((dep ba (k + 1) st1 : Nat) : Int))), (0, .ref h), (1, .int (iI ((st1 : Nat) : Int)))] := lv_chg hl 1 2 rfl (show ((((dep ba k st1) ||| (2 ^ k) : Nat) : Int) : Int) = ((dep ba (k + 1) st1 : Nat) : Int) from by first | (rw [dep_t (by omega)]) | (rw [dep_f (by omega)])) rfl
          exact ih_4 (k + 1) (by first | omega | (have h1 := hba k; have h2 := @Nat.and_le_left (ba k) st1; omega) | (rw [show k = ed by omega])) (by first | assumption | (first | omega | (have h1 := hba k; have h2 := @Nat.and_le_left (ba k) st1; omega) | (rw [show k = ed by omega]))) ls (lv_sub hl [2, 3, 1, 0] rfl)
  have hl : lv_has ls 4 [(3, .int (iI 0)), (2, .int (iI ((dep ba 0 st1 : Nat) : Int))), (0, .ref h), (1, .int (iI ((st1 : Nat) : Int)))] := lv_chg hl 1 2 rfl (show (0 : Int) = ((dep ba 0 st1 : Nat) : Int) from by rfl) rfl
  exact loop_4 ((ed - 0) + 1) 0 (by first | omega | (have h1 := hba k; have h2 := @Nat.and_le_left (ba k) st1; omega) | (rw [show k = ed by omega])) (by first | assumption | (first | omega | (have h1 := hba k; have h2 := @Nat.and_le_left (ba k) st1; omega) | (rw [show k = ed by omega]))) ls (lv_sub hl [2, 3, 1, 0] rfl)

theorem kX0_withActiveDependents_56 : Cond.fieldLink RX0 56 "PricedUndo$Buffer" "active" "I" ∈ wsX0_withActiveDependents := by decide +kernel
theorem nX0_withActiveDependents_X0 : ∀ w ∈ u_ws RX0 TX0 11, w ∈ wsX0_withActiveDependents := by decide +kernel
set_option maxHeartbeats 4000000 in
set_option maxRecDepth 100000 in
theorem c_withActiveDependents (l : Launch) (D : va_G) (cI cB cZ cO : ClassId) (h : Nat) (a1 : Nat) (a2 : Nat) (a3 : Nat) (a4 : Nat) (a5 : Nat) (tt : Nat) (ln : Nat) (ed : Nat) (es : Nat) (ac : Nat) (cu : Nat) (ba : Nat → Nat) (st1 : Nat) (hed : ed ≤ 16) (hba : ∀ k, ba k < 65536) : Met l yX0_withActiveDependents wsX0_withActiveDependents ({ frames := 2, cells := 0, slots := 0, locals := 43 }) (va_Pc [.ref h, .int (iI ((st1 : Nat) : Int))] (RO D cI cB cZ cO [(h, .inr (0, [.ref a1, .ref a2, .ref a3, .int (iI ((tt : Nat) : Int)), .ref a4, .int (iI ((ln : Nat) : Int)), .ref a5, .int (iI ((ed : Nat) : Int)), .int (iI ((es : Nat) : Int)), .int (iI ((ac : Nat) : Int)), .int (iI ((cu : Nat) : Int))])), (a5, .inl (cI, 16, .inl (rN (ba))))])) (QO ((st1 ||| (dep ba ed st1 &&& ac) : Nat) : Int)) 0 0 (fun _ => False) := by
  refine startO (cc := cX0_withActiveDependents) (maxL := 2) (ret := (some .int)) (by decide) rfl (Nat.le_of_ble_eq_true rfl) ?_
  intro p e s m below meth c S hr hlocks hE hP ls hl
  have hx := S.1
  have hb := S.2.1
  have hown := S.2.2.2.1
  have hts := S.2.2.2.2
  have hK := hE.1
  have hl : lv_has ls 2 [(0, .ref h), (1, .int (iI ((st1 : Nat) : Int)))] := hl
  refine lv_iload_n hx hb dX0_withActiveDependents_0 rfl (lv_at hl 1 rfl) ?_
  refine lv_aload_n hx hb dX0_withActiveDependents_1 rfl (lv_at hl 0 rfl) ?_
  refine lv_iload_n hx hb dX0_withActiveDependents_2 rfl (lv_at hl 1 rfl) ?_
  refine callVO (n := 1) (As := [.int (iI ((st1 : Nat) : Int))]) (rest := [.int (iI ((st1 : Nat) : Int))]) (wc := [(h, .inr (0, [.ref a1, .ref a2, .ref a3, .int (iI ((tt : Nat) : Int)), .ref a4, .int (iI ((ln : Nat) : Int)), .ref a5, .int (iI ((ed : Nat) : Int)), .int (iI ((es : Nat) : Int)), .int (iI ((ac : Nat) : Int)), .int (iI ((cu : Nat) : Int))])), (a5, .inl (cI, 16, .inl (rN (ba))))]) S (c_dependentsOf l D cI cB cZ cO h a1 a2 a3 a4 a5 tt ln ed es ac cu ba st1 (by first | assumption | (omega)) (by first | assumption | (omega))) gX0_withActiveDependents_X0_dependentsOf rfl ⟨rfl, rfl⟩ (by decide +kernel) ⟨Nat.le_of_ble_eq_true rfl, Nat.le_of_ble_eq_true rfl⟩ hE hP [0, 1] rfl 0 0 rfl rfl rfl hl.1 rfl (Nat.le_of_ble_eq_true rfl) dX0_withActiveDependents_3 ⟨Nat.le_of_ble_eq_true rfl, Nat.le_of_ble_eq_true rfl⟩ ?_
  refine lv_aload_n hx hb dX0_withActiveDependents_6 rfl (lv_at hl 0 rfl) ?_
  refine va_get (D := D) (ci := 0) (v := .int (iI ((ac : Nat) : Int))) (C := RX0) (T := TX0) (N := 11) hx hb hts nX0_withActiveDependents_X0 hown hK hP 0 rfl rfl 9 (by decide) (hts _ kX0_withActiveDependents_56) (fun _ h9 => h9) rfl dX0_withActiveDependents_7 ?_
  refine r_iand hx hb (dep ba ed st1) (ac) (rfl) (rfl) dX0_withActiveDependents_10 ?_
  refine r_ior hx hb (st1) ((dep ba ed st1) &&& ac) (rfl) (rfl) dX0_withActiveDependents_11 ?_
  exact r_iretO hx hb hr hlocks (by omega) dX0_withActiveDependents_12

theorem kX0_canTakeBack_56 : Cond.fieldLink RX0 56 "PricedUndo$Buffer" "active" "I" ∈ wsX0_canTakeBack := by decide +kernel
theorem nX0_canTakeBack_X0 : ∀ w ∈ u_ws RX0 TX0 11, w ∈ wsX0_canTakeBack := by decide +kernel
set_option maxHeartbeats 4000000 in
set_option maxRecDepth 100000 in
theorem c_canTakeBack (l : Launch) (D : va_G) (cI cB cZ cO : ClassId) (h : Nat) (a1 : Nat) (a2 : Nat) (a3 : Nat) (a4 : Nat) (a5 : Nat) (tt : Nat) (ln : Nat) (ed : Nat) (es : Nat) (ac : Nat) (cu : Nat) (ba : Nat → Nat) (st1 : Nat) (hed : ed ≤ 16) (hba : ∀ k, ba k < 65536) (hst : st1 < 65536) (hac : ac < 65536) : Met l yX0_canTakeBack wsX0_canTakeBack ({ frames := 2, cells := 0, slots := 0, locals := 43 }) (va_Pc [.ref h, .int (iI ((st1 : Nat) : Int))] (RO D cI cB cZ cO [(h, .inr (0, [.ref a1, .ref a2, .ref a3, .int (iI ((tt : Nat) : Int)), .ref a4, .int (iI ((ln : Nat) : Int)), .ref a5, .int (iI ((ed : Nat) : Int)), .int (iI ((es : Nat) : Int)), .int (iI ((ac : Nat) : Int)), .int (iI ((cu : Nat) : Int))])), (a5, .inl (cI, 16, .inl (rN (ba))))])) (QO (bI (ct ba ed ac st1))) 0 0 (fun _ => False) := by
  refine startO (cc := cX0_canTakeBack) (maxL := 2) (ret := (some .boolean)) (by decide) rfl (Nat.le_of_ble_eq_true rfl) ?_
  intro p e s m below meth c S hr hlocks hE hP ls hl
  have hx := S.1
  have hb := S.2.1
  have hown := S.2.2.2.1
  have hts := S.2.2.2.2
  have hK := hE.1
  have hl : lv_has ls 2 [(0, .ref h), (1, .int (iI ((st1 : Nat) : Int)))] := hl
  refine lv_iload_n hx hb dX0_canTakeBack_0 rfl (lv_at hl 1 rfl) ?_
  refine lv_aload_n hx hb dX0_canTakeBack_1 rfl (lv_at hl 0 rfl) ?_
  refine va_get (D := D) (ci := 0) (v := .int (iI ((ac : Nat) : Int))) (C := RX0) (T := TX0) (N := 11) hx hb hts nX0_canTakeBack_X0 hown hK hP 0 rfl rfl 9 (by decide) (hts _ kX0_canTakeBack_56) (fun _ h9 => h9) rfl dX0_canTakeBack_2 ?_
  refine r_iconst hx hb dX0_canTakeBack_5 ?_
  refine r_inot (v := (-1 - ((ac : Nat) : Int))) hx hb (rfl) dX0_canTakeBack_6 ?_
  refine r_iandnot hx hb (st1) (ac) (rfl) rfl dX0_canTakeBack_7 ?_
  refine r_if_ne (tgt := 32) hx hb (by first | omega | (have h1 := nd_le st1 ac; omega) | (have h1 := nd_le (dep ba ed st1 &&& ac) st1; have h2 := @Nat.and_le_right (dep ba ed st1) ac; omega) | (refine ⟨?_, ?_⟩ <;> omega) | (intro h9; have h8 := h9.1; have h7 := h9.2; omega)) dX0_canTakeBack_8 (by decide) (fun c_1 => ?_) (fun c_1 => ?_)
  · skip
    refine r_iconst hx hb dX0_canTakeBack_32 ?_
    exact r_zretO hx hb hr hlocks ((bI_f (by first | omega | (have h1 := nd_le st1 ac; omega) | (have h1 := nd_le (dep ba ed st1 &&& ac) st1; have h2 := @Nat.and_le_right (dep ba ed st1) ac; omega) | (refine ⟨?_, ?_⟩ <;> omega) | (intro h9; have h8 := h9.1; have h7 := h9.2; omega))).symm) (Or.inl rfl) dX0_canTakeBack_33
  · skip
    refine lv_aload_n hx hb dX0_canTakeBack_11 rfl (lv_at hl 0 rfl) ?_
    refine lv_iload_n hx hb dX0_canTakeBack_12 rfl (lv_at hl 1 rfl) ?_
    refine callVO (n := 1) (As := [.int (iI ((st1 : Nat) : Int))]) (rest := []) (wc := [(h, .inr (0, [.ref a1, .ref a2, .ref a3, .int (iI ((tt : Nat) : Int)), .ref a4, .int (iI ((ln : Nat) : Int)), .ref a5, .int (iI ((ed : Nat) : Int)), .int (iI ((es : Nat) : Int)), .int (iI ((ac : Nat) : Int)), .int (iI ((cu : Nat) : Int))])), (a5, .inl (cI, 16, .inl (rN (ba))))]) S (c_dependentsOf l D cI cB cZ cO h a1 a2 a3 a4 a5 tt ln ed es ac cu ba st1 (by first | assumption | (first | omega | (have h1 := nd_le st1 ac; omega) | (have h1 := nd_le (dep ba ed st1 &&& ac) st1; have h2 := @Nat.and_le_right (dep ba ed st1) ac; omega) | (refine ⟨?_, ?_⟩ <;> omega) | (intro h9; have h8 := h9.1; have h7 := h9.2; omega))) (by first | assumption | (first | omega | (have h1 := nd_le st1 ac; omega) | (have h1 := nd_le (dep ba ed st1 &&& ac) st1; have h2 := @Nat.and_le_right (dep ba ed st1) ac; omega) | (refine ⟨?_, ?_⟩ <;> omega) | (intro h9; have h8 := h9.1; have h7 := h9.2; omega)))) gX0_canTakeBack_X0_dependentsOf rfl ⟨rfl, rfl⟩ (by decide +kernel) ⟨Nat.le_of_ble_eq_true rfl, Nat.le_of_ble_eq_true rfl⟩ hE hP [0, 1] rfl 0 0 rfl rfl rfl hl.1 rfl (Nat.le_of_ble_eq_true rfl) dX0_canTakeBack_13 ⟨Nat.le_of_ble_eq_true rfl, Nat.le_of_ble_eq_true rfl⟩ ?_
    refine lv_aload_n hx hb dX0_canTakeBack_16 rfl (lv_at hl 0 rfl) ?_
    refine va_get (D := D) (ci := 0) (v := .int (iI ((ac : Nat) : Int))) (C := RX0) (T := TX0) (N := 11) hx hb hts nX0_canTakeBack_X0 hown hK hP 0 rfl rfl 9 (by decide) (hts _ kX0_canTakeBack_56) (fun _ h9 => h9) rfl dX0_canTakeBack_17 ?_
    refine r_iand hx hb (dep ba ed st1) (ac) (rfl) (rfl) dX0_canTakeBack_20 ?_
    refine lv_iload_n hx hb dX0_canTakeBack_21 rfl (lv_at hl 1 rfl) ?_
    refine r_iconst hx hb dX0_canTakeBack_22 ?_
    refine r_inot (v := (-1 - ((st1 : Nat) : Int))) hx hb (rfl) dX0_canTakeBack_23 ?_
    refine r_iandnot hx hb ((dep ba ed st1) &&& ac) (st1) (rfl) rfl dX0_canTakeBack_24 ?_
    refine r_if_ne (tgt := 32) hx hb (by first | omega | (have h1 := nd_le st1 ac; omega) | (have h1 := nd_le (dep ba ed st1 &&& ac) st1; have h2 := @Nat.and_le_right (dep ba ed st1) ac; omega) | (refine ⟨?_, ?_⟩ <;> omega) | (intro h9; have h8 := h9.1; have h7 := h9.2; omega)) dX0_canTakeBack_25 (by decide) (fun c_2 => ?_) (fun c_2 => ?_)
    · skip
      refine r_iconst hx hb dX0_canTakeBack_32 ?_
      exact r_zretO hx hb hr hlocks ((bI_f (by first | omega | (have h1 := nd_le st1 ac; omega) | (have h1 := nd_le (dep ba ed st1 &&& ac) st1; have h2 := @Nat.and_le_right (dep ba ed st1) ac; omega) | (refine ⟨?_, ?_⟩ <;> omega) | (intro h9; have h8 := h9.1; have h7 := h9.2; omega))).symm) (Or.inl rfl) dX0_canTakeBack_33
    · skip
      refine r_iconst hx hb dX0_canTakeBack_28 ?_
      refine lv_goto (tgt := 33) hx hb dX0_canTakeBack_29 (by decide) ?_
      exact r_zretO hx hb hr hlocks ((bI_t (by first | omega | (have h1 := nd_le st1 ac; omega) | (have h1 := nd_le (dep ba ed st1 &&& ac) st1; have h2 := @Nat.and_le_right (dep ba ed st1) ac; omega) | (refine ⟨?_, ?_⟩ <;> omega) | (intro h9; have h8 := h9.1; have h7 := h9.2; omega))).symm) (Or.inr rfl) dX0_canTakeBack_33

theorem kX0_canBringBack_50 : Cond.fieldLink RX0 50 "PricedUndo$Buffer" "edits" "I" ∈ wsX0_canBringBack := by decide +kernel
theorem nX0_canBringBack_X0 : ∀ w ∈ u_ws RX0 TX0 11, w ∈ wsX0_canBringBack := by decide +kernel
theorem kX0_canBringBack_56 : Cond.fieldLink RX0 56 "PricedUndo$Buffer" "active" "I" ∈ wsX0_canBringBack := by decide +kernel
theorem iX0_canBringBack_X4 : Cond.initialized RX4 ∈ wsX0_canBringBack := by decide +kernel
theorem sX0_canBringBack_X4_has : Cond.static yX4_has ∈ wsX0_canBringBack := by decide +kernel
theorem kX0_canBringBack_24 : Cond.fieldLink RX0 24 "PricedUndo$Buffer" "bases" "[I" ∈ wsX0_canBringBack := by decide +kernel
set_option maxHeartbeats 4000000 in
set_option maxRecDepth 100000 in
theorem c_canBringBack (l : Launch) (D : va_G) (cI cB cZ cO : ClassId) (h : Nat) (a1 : Nat) (a2 : Nat) (a3 : Nat) (a4 : Nat) (a5 : Nat) (tt : Nat) (ln : Nat) (ed : Nat) (es : Nat) (ac : Nat) (cu : Nat) (ba : Nat → Nat) (st1 : Nat) (hed : ed ≤ 16) (hba : ∀ k, ba k < 65536) (hst : st1 < 65536) (hac : ac < 65536) : Met l yX0_canBringBack wsX0_canBringBack ({ frames := 1, cells := 0, slots := 0, locals := 21 }) (va_Pc [.ref h, .int (iI ((st1 : Nat) : Int))] (RO D cI cB cZ cO [(h, .inr (0, [.ref a1, .ref a2, .ref a3, .int (iI ((tt : Nat) : Int)), .ref a4, .int (iI ((ln : Nat) : Int)), .ref a5, .int (iI ((ed : Nat) : Int)), .int (iI ((es : Nat) : Int)), .int (iI ((ac : Nat) : Int)), .int (iI ((cu : Nat) : Int))])), (a5, .inl (cI, 16, .inl (rN (ba))))])) (QO (bI (st1 &&& ac = 0 ∧ nd (nee ba st1 ed) (ac ||| st1) = 0))) 0 0 (fun _ => False) := by
  refine startO (cc := cX0_canBringBack) (maxL := 4) (ret := (some .boolean)) (by decide) rfl (Nat.le_of_ble_eq_true rfl) ?_
  intro p e s m below meth c S hr hlocks hE hP ls hl
  have hx := S.1
  have hb := S.2.1
  have hown := S.2.2.2.1
  have hts := S.2.2.2.2
  have hK := hE.1
  have hl : lv_has ls 4 [(0, .ref h), (1, .int (iI ((st1 : Nat) : Int)))] := hl
  refine r_iconst hx hb dX0_canBringBack_0 ?_
  refine lv_istore_n (lv' := [(2, .int (iI 0)), (0, .ref h), (1, .int (iI ((st1 : Nat) : Int)))]) hx hb dX0_canBringBack_1 rfl hl (by decide) rfl (fun ls hl => ?_)
  refine r_iconst hx hb dX0_canBringBack_2 ?_
  refine lv_istore_n (lv' := [(3, .int (iI 0)), (2, .int (iI 0)), (0, .ref h), (1, .int (iI ((st1 : Nat) : Int)))]) hx hb dX0_canBringBack_3 rfl hl (by decide) rfl (fun ls hl => ?_)
  have loop_4 : ∀ (n_4 : Nat) (k : Nat), (ed - k) < n_4 → (k ≤ ed) → ∀ (ls : Array Slot), lv_has ls 4 [(0, .ref h), (1, .int (iI ((st1 : Nat) : Int))), (2, .int (iI ((nee ba st1 k : Nat) : Int))), (3, .int (iI ((k : Nat) : Int)))] → W p l e ({ frames := 1, cells := 0, slots := 0, locals := 21 }) s m ([.ref h, .int (iI ((st1 : Nat) : Int))] : List Value).toArray below meth c s.heap [] 0 0 (MQ below (QO (bI (st1 &&& ac = 0 ∧ nd (nee ba st1 ed) (ac ||| st1) = 0))) ([.ref h, .int (iI ((st1 : Nat) : Int))] : List Value).toArray s 0 0 (fun _ => False)) (F0 m 4 ls []) := by
    intro n_4
    induction n_4 with
    | zero => intro k h_meas; exact absurd h_meas (Nat.not_lt_zero _)
    | succ n_4 ih_4 =>
      intro k h_m4 ik ls hl
      refine lv_iload_n hx hb dX0_canBringBack_4 rfl (lv_at hl 3 rfl) ?_
      refine lv_aload_n hx hb dX0_canBringBack_5 rfl (lv_at hl 0 rfl) ?_
      refine va_get (D := D) (ci := 0) (v := .int (iI ((ed : Nat) : Int))) (C := RX0) (T := TX0) (N := 11) hx hb hts nX0_canBringBack_X0 hown hK hP 0 rfl rfl 7 (by decide) (hts _ kX0_canBringBack_50) (fun _ h9 => h9) rfl dX0_canBringBack_6 ?_
      refine r_icmp_ge (tgt := 35) hx hb (by first | omega | (have h1 := @Nat.and_le_left st1 ac; omega) | (have h1 := nd_le (nee ba st1 k) (ac ||| st1); have h2 := @nee_lt ba k st1 hba; omega) | (refine ⟨?_, ?_⟩ <;> omega) | (intro h9; have h8 := h9.1; have h7 := h9.2; omega)) (by first | omega | (have h1 := @Nat.and_le_left st1 ac; omega) | (have h1 := nd_le (nee ba st1 k) (ac ||| st1); have h2 := @nee_lt ba k st1 hba; omega) | (refine ⟨?_, ?_⟩ <;> omega) | (intro h9; have h8 := h9.1; have h7 := h9.2; omega)) dX0_canBringBack_9 (by decide) (fun c_1 => ?_) (fun c_1 => ?_)
      · skip
        obtain rfl : k = ed := by omega
        refine lv_iload_n hx hb dX0_canBringBack_35 rfl (lv_at hl 1 rfl) ?_
        refine lv_aload_n hx hb dX0_canBringBack_36 rfl (lv_at hl 0 rfl) ?_
        refine va_get (D := D) (ci := 0) (v := .int (iI ((ac : Nat) : Int))) (C := RX0) (T := TX0) (N := 11) hx hb hts nX0_canBringBack_X0 hown hK hP 0 rfl rfl 9 (by decide) (hts _ kX0_canBringBack_56) (fun _ h9 => h9) rfl dX0_canBringBack_37 ?_
        refine r_iand hx hb (st1) (ac) (rfl) (rfl) dX0_canBringBack_40 ?_
        refine r_if_ne (tgt := 61) hx hb (by first | omega | (have h1 := @Nat.and_le_left st1 ac; omega) | (have h1 := nd_le (nee ba st1 k) (ac ||| st1); have h2 := @nee_lt ba k st1 hba; omega) | (refine ⟨?_, ?_⟩ <;> omega) | (intro h9; have h8 := h9.1; have h7 := h9.2; omega)) dX0_canBringBack_41 (by decide) (fun c_2 => ?_) (fun c_2 => ?_)
        · skip
          refine r_iconst hx hb dX0_canBringBack_61 ?_
          exact r_zretO hx hb hr hlocks ((bI_f (by first | omega | (have h1 := @Nat.and_le_left st1 ac; omega) | (have h1 := nd_le (nee ba st1 k) (ac ||| st1); have h2 := @nee_lt ba k st1 hba; omega) | (refine ⟨?_, ?_⟩ <;> omega) | (intro h9; have h8 := h9.1; have h7 := h9.2; omega))).symm) (Or.inl rfl) dX0_canBringBack_62
        · skip
          refine lv_iload_n hx hb dX0_canBringBack_44 rfl (lv_at hl 2 rfl) ?_
          refine lv_aload_n hx hb dX0_canBringBack_45 rfl (lv_at hl 0 rfl) ?_
          refine va_get (D := D) (ci := 0) (v := .int (iI ((ac : Nat) : Int))) (C := RX0) (T := TX0) (N := 11) hx hb hts nX0_canBringBack_X0 hown hK hP 0 rfl rfl 9 (by decide) (hts _ kX0_canBringBack_56) (fun _ h9 => h9) rfl dX0_canBringBack_46 ?_
          refine lv_iload_n hx hb dX0_canBringBack_49 rfl (lv_at hl 1 rfl) ?_
          refine r_ior hx hb (ac) (st1) (rfl) (rfl) dX0_canBringBack_50 ?_
          refine r_iconst hx hb dX0_canBringBack_51 ?_
          refine r_inot (v := (-1 - ((ac ||| st1 : Nat) : Int))) hx hb (rfl) dX0_canBringBack_52 ?_
          refine r_iandnot hx hb (nee ba st1 k) (ac ||| st1) (rfl) rfl dX0_canBringBack_53 ?_
          refine r_if_ne (tgt := 61) hx hb (by first | omega | (have h1 := @Nat.and_le_left st1 ac; omega) | (have h1 := nd_le (nee ba st1 k) (ac ||| st1); have h2 := @nee_lt ba k st1 hba; omega) | (refine ⟨?_, ?_⟩ <;> omega) | (intro h9; have h8 := h9.1; have h7 := h9.2; omega)) dX0_canBringBack_54 (by decide) (fun c_3 => ?_) (fun c_3 => ?_)
          · skip
            refine r_iconst hx hb dX0_canBringBack_61 ?_
            exact r_zretO hx hb hr hlocks ((bI_f (by first | omega | (have h1 := @Nat.and_le_left st1 ac; omega) | (have h1 := nd_le (nee ba st1 k) (ac ||| st1); have h2 := @nee_lt ba k st1 hba; omega) | (refine ⟨?_, ?_⟩ <;> omega) | (intro h9; have h8 := h9.1; have h7 := h9.2; omega))).symm) (Or.inl rfl) dX0_canBringBack_62
          · skip
            refine r_iconst hx hb dX0_canBringBack_57 ?_
            refine lv_goto (tgt := 62) hx hb dX0_canBringBack_58 (by decide) ?_
            exact r_zretO hx hb hr hlocks ((bI_t (by first | omega | (have h1 := @Nat.and_le_left st1 ac; omega) | (have h1 := nd_le (nee ba st1 k) (ac ||| st1); have h2 := @nee_lt ba k st1 hba; omega) | (refine ⟨?_, ?_⟩ <;> omega) | (intro h9; have h8 := h9.1; have h7 := h9.2; omega))).symm) (Or.inr rfl) dX0_canBringBack_62
      · skip
        refine lv_iload_n hx hb dX0_canBringBack_12 rfl (lv_at hl 1 rfl) ?_
        refine lv_iload_n hx hb dX0_canBringBack_13 rfl (lv_at hl 3 rfl) ?_
        refine callNO (n := 2) (As := [.int (iI ((st1 : Nat) : Int)), .int (iI ((k : Nat) : Int))]) (rest := []) (wc := []) S (c_has l D cI cB cZ cO st1 k (by first | assumption | (first | omega | (have h1 := @Nat.and_le_left st1 ac; omega) | (have h1 := nd_le (nee ba st1 k) (ac ||| st1); have h2 := @nee_lt ba k st1 hba; omega) | (refine ⟨?_, ?_⟩ <;> omega) | (intro h9; have h8 := h9.1; have h7 := h9.2; omega))) (by first | assumption | (first | omega | (have h1 := @Nat.and_le_left st1 ac; omega) | (have h1 := nd_le (nee ba st1 k) (ac ||| st1); have h2 := @nee_lt ba k st1 hba; omega) | (refine ⟨?_, ?_⟩ <;> omega) | (intro h9; have h8 := h9.1; have h7 := h9.2; omega)))) gX0_canBringBack_X4_has_n115 rfl ⟨rfl, rfl⟩ (hE.2.m 5 rfl) (hts _ iX0_canBringBack_X4) (hts _ sX0_canBringBack_X4_has) (by decide +kernel) ⟨Nat.le_of_ble_eq_true rfl, Nat.le_of_ble_eq_true rfl⟩ hE hP [] rfl rfl hl.1 rfl (Nat.le_of_ble_eq_true rfl) dX0_canBringBack_14 ⟨Nat.le_of_ble_eq_true rfl, Nat.le_of_ble_eq_true rfl⟩ ?_
        refine r_ifb_eq (tgt := 29) hx hb dX0_canBringBack_17 (by decide) (fun c_4 => ?_) (fun c_4 => ?_)
        · skip
          refine lv_iinc (v := iI ((k + 1 : Nat) : Int)) (lv' := [(3, .int (iI ((k + 1 : Nat) : Int))), (0, .ref h), (1, .int (iI ((st1 : Nat) : Int))), (2, .int (iI ((nee ba st1 k : Nat) : Int)))]) hx hb dX0_canBringBack_29 hl (k := 3) rfl ((iI_add _ _).trans (ii (rfl))) (by decide) rfl (fun ls hl => ?_)
          refine lv_goto (tgt := 4) hx hb dX0_canBringBack_32 (by decide) ?_
          have hl : lv_has ls 4 [(3, .int (iI ((k + 1 : Nat) : Int))), (0, .ref h), (1, .int (iI ((st1 : Nat) : Int))), (2, .int (iI ((nee ba st1 (k + 1) : Nat) : Int)))] := lv_chg hl 3 2 rfl (show (((nee ba st1 k : Nat) : Int) : Int) = ((nee ba st1 (k + 1) : Nat) : Int) from by first | (rw [nee_t (by assumption)]) | (rw [nee_f (by assumption)])) rfl
          exact ih_4 (k + 1) (by first | omega | (have h1 := @Nat.and_le_left st1 ac; omega) | (have h1 := nd_le (nee ba st1 k) (ac ||| st1); have h2 := @nee_lt ba k st1 hba; omega) | (refine ⟨?_, ?_⟩ <;> omega) | (intro h9; have h8 := h9.1; have h7 := h9.2; omega)) (by first | assumption | (first | omega | (have h1 := @Nat.and_le_left st1 ac; omega) | (have h1 := nd_le (nee ba st1 k) (ac ||| st1); have h2 := @nee_lt ba k st1 hba; omega) | (refine ⟨?_, ?_⟩ <;> omega) | (intro h9; have h8 := h9.1; have h7 := h9.2; omega))) ls (lv_sub hl [1, 2, 3, 0] rfl)
        · skip
          refine lv_iload_n hx hb dX0_canBringBack_20 rfl (lv_at hl 2 rfl) ?_
          refine lv_aload_n hx hb dX0_canBringBack_21 rfl (lv_at hl 0 rfl) ?_
          refine va_get (D := D) (ci := 0) (v := .ref a5) (C := RX0) (T := TX0) (N := 11) hx hb hts nX0_canBringBack_X0 hown hK hP 0 rfl rfl 6 (by decide) (hts _ kX0_canBringBack_24) (fun _ h9 => h9) rfl dX0_canBringBack_22 ?_
          refine lv_iload_n hx hb dX0_canBringBack_25 rfl (lv_at hl 3 rfl) ?_
          refine r_ialdN hx hb hK hP 1 0 rfl rfl (k) (rfl) (by first | omega | (have h1 := @Nat.and_le_left st1 ac; omega) | (have h1 := nd_le (nee ba st1 k) (ac ||| st1); have h2 := @nee_lt ba k st1 hba; omega) | (refine ⟨?_, ?_⟩ <;> omega) | (intro h9; have h8 := h9.1; have h7 := h9.2; omega)) (by decide) dX0_canBringBack_26 ?_
          refine r_ior hx hb (nee ba st1 k) (ba k) (rfl) (rfl) dX0_canBringBack_27 ?_
          refine lv_istore_n (lv' := [(2, .int (iI (((nee ba st1 k) ||| (ba k) : Nat) : Int))), (0, .ref h), (1, .int (iI ((st1 : Nat) : Int))), (3, .int (iI ((k : Nat) : Int)))]) hx hb dX0_canBringBack_28 rfl hl (by decide) rfl (fun ls hl => ?_)
          refine lv_iinc (v := iI ((k + 1 : Nat) : Int)) (lv' := [(3, .int (iI ((k + 1 : Nat) : Int))), (2, .int (iI (((nee ba st1 k) ||| (ba k) : Nat) : Int))), (0, .ref h), (1, .int (iI ((st1 : Nat) : Int)))]) hx hb dX0_canBringBack_29 hl (k := 3) rfl ((iI_add _ _).trans (ii (rfl))) (by decide) rfl (fun ls hl => ?_)
          refine lv_goto (tgt := 4) hx hb dX0_canBringBack_32 (by decide) ?_
          have hl : lv_has ls 4 [(3, .int (iI ((k + 1 : Nat) : Int))), (2, .int (iI ((nee ba st1 (k + 1) : Nat) : Int))), (0, .ref h), (1, .int (iI ((st1 : Nat) : Int)))] := lv_chg hl 1 2 rfl (show ((((nee ba st1 k) ||| (ba k) : Nat) : Int) : Int) = ((nee ba st1 (k + 1) : Nat) : Int) from by first | (rw [nee_t (by assumption)]) | (rw [nee_f (by assumption)])) rfl
          exact ih_4 (k + 1) (by first | omega | (have h1 := @Nat.and_le_left st1 ac; omega) | (have h1 := nd_le (nee ba st1 k) (ac ||| st1); have h2 := @nee_lt ba k st1 hba; omega) | (refine ⟨?_, ?_⟩ <;> omega) | (intro h9; have h8 := h9.1; have h7 := h9.2; omega)) (by first | assumption | (first | omega | (have h1 := @Nat.and_le_left st1 ac; omega) | (have h1 := nd_le (nee ba st1 k) (ac ||| st1); have h2 := @nee_lt ba k st1 hba; omega) | (refine ⟨?_, ?_⟩ <;> omega) | (intro h9; have h8 := h9.1; have h7 := h9.2; omega))) ls (lv_sub hl [2, 3, 1, 0] rfl)
  have hl : lv_has ls 4 [(3, .int (iI 0)), (2, .int (iI ((nee ba st1 0 : Nat) : Int))), (0, .ref h), (1, .int (iI ((st1 : Nat) : Int)))] := lv_chg hl 1 2 rfl (show (0 : Int) = ((nee ba st1 0 : Nat) : Int) from by rfl) rfl
  exact loop_4 ((ed - 0) + 1) 0 (by first | omega | (have h1 := @Nat.and_le_left st1 ac; omega) | (have h1 := nd_le (nee ba st1 k) (ac ||| st1); have h2 := @nee_lt ba k st1 hba; omega) | (refine ⟨?_, ?_⟩ <;> omega) | (intro h9; have h8 := h9.1; have h7 := h9.2; omega)) (by first | assumption | (first | omega | (have h1 := @Nat.and_le_left st1 ac; omega) | (have h1 := nd_le (nee ba st1 k) (ac ||| st1); have h2 := @nee_lt ba k st1 hba; omega) | (refine ⟨?_, ?_⟩ <;> omega) | (intro h9; have h8 := h9.1; have h7 := h9.2; omega))) ls (lv_sub hl [2, 3, 1, 0] rfl)

theorem kX0_looseEdits_50 : Cond.fieldLink RX0 50 "PricedUndo$Buffer" "edits" "I" ∈ wsX0_looseEdits := by decide +kernel
theorem nX0_looseEdits_X0 : ∀ w ∈ u_ws RX0 TX0 11, w ∈ wsX0_looseEdits := by decide +kernel
theorem iX0_looseEdits_X4 : Cond.initialized RX4 ∈ wsX0_looseEdits := by decide +kernel
theorem sX0_looseEdits_X4_single : Cond.static yX4_single ∈ wsX0_looseEdits := by decide +kernel
set_option maxHeartbeats 4000000 in
set_option maxRecDepth 100000 in
theorem c_looseEdits (l : Launch) (D : va_G) (cI cB cZ cO : ClassId) (h : Nat) (a1 : Nat) (a2 : Nat) (a3 : Nat) (a4 : Nat) (a5 : Nat) (tt : Nat) (ln : Nat) (ed : Nat) (es : Nat) (ac : Nat) (cu : Nat) (ba : Nat → Nat) (hed : ed ≤ 16) (hba : ∀ k, ba k < 65536) (hac : ac < 65536) : Met l yX0_looseEdits wsX0_looseEdits ({ frames := 3, cells := 0, slots := 0, locals := 64 }) (va_Pc [.ref h] (RO D cI cB cZ cO [(h, .inr (0, [.ref a1, .ref a2, .ref a3, .int (iI ((tt : Nat) : Int)), .ref a4, .int (iI ((ln : Nat) : Int)), .ref a5, .int (iI ((ed : Nat) : Int)), .int (iI ((es : Nat) : Int)), .int (iI ((ac : Nat) : Int)), .int (iI ((cu : Nat) : Int))])), (a5, .inl (cI, 16, .inl (rN (ba))))])) (QO ((lse ba ed ac ed : Nat) : Int)) 0 0 (fun _ => False) := by
  refine startO (cc := cX0_looseEdits) (maxL := 3) (ret := (some .int)) (by decide) rfl (Nat.le_of_ble_eq_true rfl) ?_
  intro p e s m below meth c S hr hlocks hE hP ls hl
  have hx := S.1
  have hb := S.2.1
  have hown := S.2.2.2.1
  have hts := S.2.2.2.2
  have hK := hE.1
  have hl : lv_has ls 3 [(0, .ref h)] := hl
  refine r_iconst hx hb dX0_looseEdits_0 ?_
  refine lv_istore_n (lv' := [(1, .int (iI 0)), (0, .ref h)]) hx hb dX0_looseEdits_1 rfl hl (by decide) rfl (fun ls hl => ?_)
  refine r_iconst hx hb dX0_looseEdits_2 ?_
  refine lv_istore_n (lv' := [(2, .int (iI 0)), (1, .int (iI 0)), (0, .ref h)]) hx hb dX0_looseEdits_3 rfl hl (by decide) rfl (fun ls hl => ?_)
  have loop_4 : ∀ (n_4 : Nat) (k : Nat), (ed - k) < n_4 → (k ≤ ed) → ∀ (ls : Array Slot), lv_has ls 3 [(0, .ref h), (1, .int (iI ((lse ba ed ac k : Nat) : Int))), (2, .int (iI ((k : Nat) : Int)))] → W p l e ({ frames := 3, cells := 0, slots := 0, locals := 64 }) s m ([.ref h] : List Value).toArray below meth c s.heap [] 0 0 (MQ below (QO ((lse ba ed ac ed : Nat) : Int)) ([.ref h] : List Value).toArray s 0 0 (fun _ => False)) (F0 m 4 ls []) := by
    intro n_4
    induction n_4 with
    | zero => intro k h_meas; exact absurd h_meas (Nat.not_lt_zero _)
    | succ n_4 ih_4 =>
      intro k h_m4 ik ls hl
      refine lv_iload_n hx hb dX0_looseEdits_4 rfl (lv_at hl 2 rfl) ?_
      refine lv_aload_n hx hb dX0_looseEdits_5 rfl (lv_at hl 0 rfl) ?_
      refine va_get (D := D) (ci := 0) (v := .int (iI ((ed : Nat) : Int))) (C := RX0) (T := TX0) (N := 11) hx hb hts nX0_looseEdits_X0 hown hK hP 0 rfl rfl 7 (by decide) (hts _ kX0_looseEdits_50) (fun _ h9 => h9) rfl dX0_looseEdits_6 ?_
      refine r_icmp_ge (tgt := 36) hx hb (by first | omega | exact pow16 (by omega) | (rw [show k = ed by omega])) (by first | omega | exact pow16 (by omega) | (rw [show k = ed by omega])) dX0_looseEdits_9 (by decide) (fun c_1 => ?_) (fun c_1 => ?_)
      · skip
        refine lv_iload_n hx hb dX0_looseEdits_36 rfl (lv_at hl 1 rfl) ?_
        exact r_iretO hx hb hr hlocks (by first | omega | exact pow16 (by omega) | (rw [show k = ed by omega])) dX0_looseEdits_37
      · skip
        refine lv_aload_n hx hb dX0_looseEdits_12 rfl (lv_at hl 0 rfl) ?_
        refine lv_iload_n hx hb dX0_looseEdits_13 rfl (lv_at hl 2 rfl) ?_
        refine callNO (n := 1) (As := [.int (iI ((k : Nat) : Int))]) (rest := [.ref h]) (wc := []) S (c_single l D cI cB cZ cO k (by first | assumption | (first | omega | exact pow16 (by omega) | (rw [show k = ed by omega])))) gX0_looseEdits_X4_single_n79 rfl ⟨rfl, rfl⟩ (hE.2.m 4 rfl) (hts _ iX0_looseEdits_X4) (hts _ sX0_looseEdits_X4_single) (by decide +kernel) ⟨Nat.le_of_ble_eq_true rfl, Nat.le_of_ble_eq_true rfl⟩ hE hP [] rfl rfl hl.1 rfl (Nat.le_of_ble_eq_true rfl) dX0_looseEdits_14 ⟨Nat.le_of_ble_eq_true rfl, Nat.le_of_ble_eq_true rfl⟩ ?_
        refine callVO (n := 1) (As := [.int (iI ((2 ^ k : Nat) : Int))]) (rest := []) (wc := [(h, .inr (0, [.ref a1, .ref a2, .ref a3, .int (iI ((tt : Nat) : Int)), .ref a4, .int (iI ((ln : Nat) : Int)), .ref a5, .int (iI ((ed : Nat) : Int)), .int (iI ((es : Nat) : Int)), .int (iI ((ac : Nat) : Int)), .int (iI ((cu : Nat) : Int))])), (a5, .inl (cI, 16, .inl (rN (ba))))]) S (c_canTakeBack l D cI cB cZ cO h a1 a2 a3 a4 a5 tt ln ed es ac cu ba (2 ^ k) (by first | assumption | (first | omega | exact pow16 (by omega) | (rw [show k = ed by omega]))) (by first | assumption | (first | omega | exact pow16 (by omega) | (rw [show k = ed by omega]))) (by first | assumption | (first | omega | exact pow16 (by omega) | (rw [show k = ed by omega]))) (by first | assumption | (first | omega | exact pow16 (by omega) | (rw [show k = ed by omega])))) gX0_looseEdits_X0_canTakeBack rfl ⟨rfl, rfl⟩ (by decide +kernel) ⟨Nat.le_of_ble_eq_true rfl, Nat.le_of_ble_eq_true rfl⟩ hE hP [0, 1] rfl 0 0 rfl rfl rfl hl.1 rfl (Nat.le_of_ble_eq_true rfl) dX0_looseEdits_17 ⟨Nat.le_of_ble_eq_true rfl, Nat.le_of_ble_eq_true rfl⟩ ?_
        refine r_ifb_eq (tgt := 30) hx hb dX0_looseEdits_20 (by decide) (fun c_2 => ?_) (fun c_2 => ?_)
        · skip
          refine lv_iinc (v := iI ((k + 1 : Nat) : Int)) (lv' := [(2, .int (iI ((k + 1 : Nat) : Int))), (0, .ref h), (1, .int (iI ((lse ba ed ac k : Nat) : Int)))]) hx hb dX0_looseEdits_30 hl (k := 2) rfl ((iI_add _ _).trans (ii (rfl))) (by decide) rfl (fun ls hl => ?_)
          refine lv_goto (tgt := 4) hx hb dX0_looseEdits_33 (by decide) ?_
          have hl : lv_has ls 3 [(2, .int (iI ((k + 1 : Nat) : Int))), (0, .ref h), (1, .int (iI ((lse ba ed ac (k + 1) : Nat) : Int)))] := lv_chg hl 2 1 rfl (show (((lse ba ed ac k : Nat) : Int) : Int) = ((lse ba ed ac (k + 1) : Nat) : Int) from by first | (rw [lse_t (by assumption)]) | (rw [lse_f (by assumption)])) rfl
          exact ih_4 (k + 1) (by first | omega | exact pow16 (by omega) | (rw [show k = ed by omega])) (by first | assumption | (first | omega | exact pow16 (by omega) | (rw [show k = ed by omega]))) ls (lv_sub hl [1, 2, 0] rfl)
        · skip
          refine lv_iload_n hx hb dX0_looseEdits_23 rfl (lv_at hl 1 rfl) ?_
          refine lv_iload_n hx hb dX0_looseEdits_24 rfl (lv_at hl 2 rfl) ?_
          refine callNO (n := 1) (As := [.int (iI ((k : Nat) : Int))]) (rest := [.int (iI ((lse ba ed ac k : Nat) : Int))]) (wc := []) S (c_single l D cI cB cZ cO k (by first | assumption | (first | omega | exact pow16 (by omega) | (rw [show k = ed by omega])))) gX0_looseEdits_X4_single_n79 rfl ⟨rfl, rfl⟩ (hE.2.m 4 rfl) (hts _ iX0_looseEdits_X4) (hts _ sX0_looseEdits_X4_single) (by decide +kernel) ⟨Nat.le_of_ble_eq_true rfl, Nat.le_of_ble_eq_true rfl⟩ hE hP [] rfl rfl hl.1 rfl (Nat.le_of_ble_eq_true rfl) dX0_looseEdits_25 ⟨Nat.le_of_ble_eq_true rfl, Nat.le_of_ble_eq_true rfl⟩ ?_
          refine r_ior hx hb (lse ba ed ac k) (2 ^ k) (rfl) (rfl) dX0_looseEdits_28 ?_
          refine lv_istore_n (lv' := [(1, .int (iI (((lse ba ed ac k) ||| (2 ^ k) : Nat) : Int))), (0, .ref h), (2, .int (iI ((k : Nat) : Int)))]) hx hb dX0_looseEdits_29 rfl hl (by decide) rfl (fun ls hl => ?_)
          refine lv_iinc (v := iI ((k + 1 : Nat) : Int)) (lv' := [(2, .int (iI ((k + 1 : Nat) : Int))), (1, .int (iI (((lse ba ed ac k) ||| (2 ^ k) : Nat) : Int))), (0, .ref h)]) hx hb dX0_looseEdits_30 hl (k := 2) rfl ((iI_add _ _).trans (ii (rfl))) (by decide) rfl (fun ls hl => ?_)
          refine lv_goto (tgt := 4) hx hb dX0_looseEdits_33 (by decide) ?_
          have hl : lv_has ls 3 [(2, .int (iI ((k + 1 : Nat) : Int))), (1, .int (iI ((lse ba ed ac (k + 1) : Nat) : Int))), (0, .ref h)] := lv_chg hl 1 1 rfl (show ((((lse ba ed ac k) ||| (2 ^ k) : Nat) : Int) : Int) = ((lse ba ed ac (k + 1) : Nat) : Int) from by first | (rw [lse_t (by assumption)]) | (rw [lse_f (by assumption)])) rfl
          exact ih_4 (k + 1) (by first | omega | exact pow16 (by omega) | (rw [show k = ed by omega])) (by first | assumption | (first | omega | exact pow16 (by omega) | (rw [show k = ed by omega]))) ls (lv_sub hl [2, 1, 0] rfl)
  have hl : lv_has ls 3 [(2, .int (iI 0)), (1, .int (iI ((lse ba ed ac 0 : Nat) : Int))), (0, .ref h)] := lv_chg hl 1 1 rfl (show (0 : Int) = ((lse ba ed ac 0 : Nat) : Int) from by rfl) rfl
  exact loop_4 ((ed - 0) + 1) 0 (by first | omega | exact pow16 (by omega) | (rw [show k = ed by omega])) (by first | assumption | (first | omega | exact pow16 (by omega) | (rw [show k = ed by omega]))) ls (lv_sub hl [2, 1, 0] rfl)

theorem iX0_areFree_X4 : Cond.initialized RX4 ∈ wsX0_areFree := by decide +kernel
theorem sX0_areFree_X4_has : Cond.static yX4_has ∈ wsX0_areFree := by decide +kernel
set_option maxHeartbeats 4000000 in
set_option maxRecDepth 100000 in
theorem c_areFree (l : Launch) (D : va_G) (cI cB cZ cO : ClassId) (h : Nat) (a1 : Nat) (a2 : Nat) (a3 : Nat) (a4 : Nat) (a5 : Nat) (tt : Nat) (ln : Nat) (ed : Nat) (es : Nat) (ac : Nat) (cu : Nat) (ba : Nat → Nat) (e1 : Nat) (e2 : Nat) (he1 : e1 < ed) (he2 : e2 < ed) (hed : ed ≤ 16) (hba : ∀ k, ba k < 65536) : Met l yX0_areFree wsX0_areFree ({ frames := 2, cells := 0, slots := 0, locals := 42 }) (va_Pc [.ref h, .int (iI ((e1 : Nat) : Int)), .int (iI ((e2 : Nat) : Int))] (RO D cI cB cZ cO [(h, .inr (0, [.ref a1, .ref a2, .ref a3, .int (iI ((tt : Nat) : Int)), .ref a4, .int (iI ((ln : Nat) : Int)), .ref a5, .int (iI ((ed : Nat) : Int)), .int (iI ((es : Nat) : Int)), .int (iI ((ac : Nat) : Int)), .int (iI ((cu : Nat) : Int))])), (a5, .inl (cI, 16, .inl (rN (ba))))])) (QO (bI (fre ba e1 e2))) 0 0 (fun _ => False) := by
  refine startO (cc := cX0_areFree) (maxL := 3) (ret := (some .boolean)) (by decide) rfl (Nat.le_of_ble_eq_true rfl) ?_
  intro p e s m below meth c S hr hlocks hE hP ls hl
  have hx := S.1
  have hb := S.2.1
  have hown := S.2.2.2.1
  have hts := S.2.2.2.2
  have hK := hE.1
  have hl : lv_has ls 3 [(0, .ref h), (1, .int (iI ((e1 : Nat) : Int))), (2, .int (iI ((e2 : Nat) : Int)))] := hl
  refine lv_aload_n hx hb dX0_areFree_0 rfl (lv_at hl 0 rfl) ?_
  refine lv_iload_n hx hb dX0_areFree_1 rfl (lv_at hl 1 rfl) ?_
  refine callVO (n := 1) (As := [.int (iI ((e1 : Nat) : Int))]) (rest := []) (wc := [(h, .inr (0, [.ref a1, .ref a2, .ref a3, .int (iI ((tt : Nat) : Int)), .ref a4, .int (iI ((ln : Nat) : Int)), .ref a5, .int (iI ((ed : Nat) : Int)), .int (iI ((es : Nat) : Int)), .int (iI ((ac : Nat) : Int)), .int (iI ((cu : Nat) : Int))])), (a5, .inl (cI, 16, .inl (rN (ba))))]) S (c_basesOf l D cI cB cZ cO h a1 a2 a3 a4 a5 tt ln ed es ac cu ba e1 (by first | assumption | (first | omega | exact hba _ | exact ⟨by assumption, by assumption⟩ | (intro h9; exact h9.1 (by assumption)) | (intro h9; exact h9.2 (by assumption)))) (by first | assumption | (first | omega | exact hba _ | exact ⟨by assumption, by assumption⟩ | (intro h9; exact h9.1 (by assumption)) | (intro h9; exact h9.2 (by assumption))))) gX0_areFree_X0_basesOf rfl ⟨rfl, rfl⟩ (by decide +kernel) ⟨Nat.le_of_ble_eq_true rfl, Nat.le_of_ble_eq_true rfl⟩ hE hP [0, 1] rfl 0 0 rfl rfl rfl hl.1 rfl (Nat.le_of_ble_eq_true rfl) dX0_areFree_2 ⟨Nat.le_of_ble_eq_true rfl, Nat.le_of_ble_eq_true rfl⟩ ?_
  refine lv_iload_n hx hb dX0_areFree_5 rfl (lv_at hl 2 rfl) ?_
  refine callNO (n := 2) (As := [.int (iI ((ba e1 : Nat) : Int)), .int (iI ((e2 : Nat) : Int))]) (rest := []) (wc := []) S (c_has l D cI cB cZ cO (ba e1) e2 (by first | assumption | (first | omega | exact hba _ | exact ⟨by assumption, by assumption⟩ | (intro h9; exact h9.1 (by assumption)) | (intro h9; exact h9.2 (by assumption)))) (by first | assumption | (first | omega | exact hba _ | exact ⟨by assumption, by assumption⟩ | (intro h9; exact h9.1 (by assumption)) | (intro h9; exact h9.2 (by assumption))))) gX0_areFree_X4_has_n115 rfl ⟨rfl, rfl⟩ (hE.2.m 5 rfl) (hts _ iX0_areFree_X4) (hts _ sX0_areFree_X4_has) (by decide +kernel) ⟨Nat.le_of_ble_eq_true rfl, Nat.le_of_ble_eq_true rfl⟩ hE hP [] rfl rfl hl.1 rfl (Nat.le_of_ble_eq_true rfl) dX0_areFree_6 ⟨Nat.le_of_ble_eq_true rfl, Nat.le_of_ble_eq_true rfl⟩ ?_
  refine r_ifb_ne (tgt := 28) hx hb dX0_areFree_9 (by decide) (fun c_1 => ?_) (fun c_1 => ?_)
  · skip
    refine r_iconst hx hb dX0_areFree_28 ?_
    exact r_zretO hx hb hr hlocks ((bI_f (by first | omega | exact hba _ | exact ⟨by assumption, by assumption⟩ | (intro h9; exact h9.1 (by assumption)) | (intro h9; exact h9.2 (by assumption)))).symm) (Or.inl rfl) dX0_areFree_29
  · skip
    refine lv_aload_n hx hb dX0_areFree_12 rfl (lv_at hl 0 rfl) ?_
    refine lv_iload_n hx hb dX0_areFree_13 rfl (lv_at hl 2 rfl) ?_
    refine callVO (n := 1) (As := [.int (iI ((e2 : Nat) : Int))]) (rest := []) (wc := [(h, .inr (0, [.ref a1, .ref a2, .ref a3, .int (iI ((tt : Nat) : Int)), .ref a4, .int (iI ((ln : Nat) : Int)), .ref a5, .int (iI ((ed : Nat) : Int)), .int (iI ((es : Nat) : Int)), .int (iI ((ac : Nat) : Int)), .int (iI ((cu : Nat) : Int))])), (a5, .inl (cI, 16, .inl (rN (ba))))]) S (c_basesOf l D cI cB cZ cO h a1 a2 a3 a4 a5 tt ln ed es ac cu ba e2 (by first | assumption | (first | omega | exact hba _ | exact ⟨by assumption, by assumption⟩ | (intro h9; exact h9.1 (by assumption)) | (intro h9; exact h9.2 (by assumption)))) (by first | assumption | (first | omega | exact hba _ | exact ⟨by assumption, by assumption⟩ | (intro h9; exact h9.1 (by assumption)) | (intro h9; exact h9.2 (by assumption))))) gX0_areFree_X0_basesOf rfl ⟨rfl, rfl⟩ (by decide +kernel) ⟨Nat.le_of_ble_eq_true rfl, Nat.le_of_ble_eq_true rfl⟩ hE hP [0, 1] rfl 0 0 rfl rfl rfl hl.1 rfl (Nat.le_of_ble_eq_true rfl) dX0_areFree_14 ⟨Nat.le_of_ble_eq_true rfl, Nat.le_of_ble_eq_true rfl⟩ ?_
    refine lv_iload_n hx hb dX0_areFree_17 rfl (lv_at hl 1 rfl) ?_
    refine callNO (n := 2) (As := [.int (iI ((ba e2 : Nat) : Int)), .int (iI ((e1 : Nat) : Int))]) (rest := []) (wc := []) S (c_has l D cI cB cZ cO (ba e2) e1 (by first | assumption | (first | omega | exact hba _ | exact ⟨by assumption, by assumption⟩ | (intro h9; exact h9.1 (by assumption)) | (intro h9; exact h9.2 (by assumption)))) (by first | assumption | (first | omega | exact hba _ | exact ⟨by assumption, by assumption⟩ | (intro h9; exact h9.1 (by assumption)) | (intro h9; exact h9.2 (by assumption))))) gX0_areFree_X4_has_n115 rfl ⟨rfl, rfl⟩ (hE.2.m 5 rfl) (hts _ iX0_areFree_X4) (hts _ sX0_areFree_X4_has) (by decide +kernel) ⟨Nat.le_of_ble_eq_true rfl, Nat.le_of_ble_eq_true rfl⟩ hE hP [] rfl rfl hl.1 rfl (Nat.le_of_ble_eq_true rfl) dX0_areFree_18 ⟨Nat.le_of_ble_eq_true rfl, Nat.le_of_ble_eq_true rfl⟩ ?_
    refine r_ifb_ne (tgt := 28) hx hb dX0_areFree_21 (by decide) (fun c_2 => ?_) (fun c_2 => ?_)
    · skip
      refine r_iconst hx hb dX0_areFree_28 ?_
      exact r_zretO hx hb hr hlocks ((bI_f (by first | omega | exact hba _ | exact ⟨by assumption, by assumption⟩ | (intro h9; exact h9.1 (by assumption)) | (intro h9; exact h9.2 (by assumption)))).symm) (Or.inl rfl) dX0_areFree_29
    · skip
      refine r_iconst hx hb dX0_areFree_24 ?_
      refine lv_goto (tgt := 29) hx hb dX0_areFree_25 (by decide) ?_
      exact r_zretO hx hb hr hlocks ((bI_t (by first | omega | exact hba _ | exact ⟨by assumption, by assumption⟩ | (intro h9; exact h9.1 (by assumption)) | (intro h9; exact h9.2 (by assumption)))).symm) (Or.inr rfl) dX0_areFree_29
