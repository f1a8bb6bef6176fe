set_option maxHeartbeats 4000000 in
set_option maxRecDepth 100000 in
theorem c_single (l : Launch) (D : va_G) (cI cB cZ cO : ClassId) (e1 : Nat) (he1 : e1 < 31) : Met l yX4_single wsX4_single ({ frames := 0, cells := 0, slots := 0, locals := 0 }) (va_Pc [.int (iI ((e1 : Nat) : Int))] (RO D cI cB cZ cO [])) (QO ((2 ^ e1 : Nat) : Int)) 0 0 (fun _ => False) := by
  refine startO (cc := cX4_single) (maxL := 1) (ret := (some .int)) (by decide) rfl (Nat.le_of_ble_eq_true rfl) ?_
  intro p e s m below meth c S hr hlocks hE hP ls hl
  have hx := S.1
  have hb := S.2.1
  have hown := S.2.2.2.1
  have hts := S.2.2.2.2
  have hK := hE.1
  have hl : lv_has ls 1 [(0, .int (iI ((e1 : Nat) : Int)))] := hl
  refine r_iconst hx hb dX4_single_0 ?_
  refine lv_iload_n hx hb dX4_single_1 rfl (lv_at hl 0 rfl) ?_
  refine r_shl1 hx hb (e1) (rfl) (by omega) dX4_single_2 ?_
  exact r_iretO hx hb hr hlocks (rfl) dX4_single_3

set_option maxHeartbeats 4000000 in
set_option maxRecDepth 100000 in
theorem c_has (l : Launch) (D : va_G) (cI cB cZ cO : ClassId) (st1 : Nat) (e1 : Nat) (hst : st1 < 65536) (he1 : e1 < 31) : Met l yX4_has wsX4_has ({ frames := 0, cells := 0, slots := 0, locals := 0 }) (va_Pc [.int (iI ((st1 : Nat) : Int)), .int (iI ((e1 : Nat) : Int))] (RO D cI cB cZ cO [])) (QO (bI (st1.testBit e1 = true))) 0 0 (fun _ => False) := by
  refine startO (cc := cX4_has) (maxL := 2) (ret := (some .boolean)) (by decide) rfl (Nat.le_of_ble_eq_true rfl) ?_
  intro p e s m below meth c S hr hlocks hE hP ls hl
  have hx := S.1
  have hb := S.2.1
  have hown := S.2.2.2.1
  have hts := S.2.2.2.2
  have hK := hE.1
  have hl : lv_has ls 2 [(0, .int (iI ((st1 : Nat) : Int))), (1, .int (iI ((e1 : Nat) : Int)))] := hl
  refine lv_iload_n hx hb dX4_has_0 rfl (lv_at hl 0 rfl) ?_
  refine r_iconst hx hb dX4_has_1 ?_
  refine lv_iload_n hx hb dX4_has_2 rfl (lv_at hl 1 rfl) ?_
  refine r_shl1 hx hb (e1) (rfl) (by first | omega | (have h9 := @Nat.and_le_left st1 (2 ^ e1); omega) | (rcases hasE st1 e1 with ⟨h1, h2⟩ | ⟨h1, h2⟩ <;> first | omega | simp [h2])) dX4_has_3 ?_
  refine r_iand hx hb (st1) (2 ^ e1) (rfl) (rfl) dX4_has_4 ?_
  refine r_if_eq (tgt := 12) hx hb (by first | omega | (have h9 := @Nat.and_le_left st1 (2 ^ e1); omega) | (rcases hasE st1 e1 with ⟨h1, h2⟩ | ⟨h1, h2⟩ <;> first | omega | simp [h2])) dX4_has_5 (by decide) (fun c_1 => ?_) (fun c_1 => ?_)
  · skip
    refine r_iconst hx hb dX4_has_12 ?_
    exact r_zretO hx hb hr hlocks ((bI_f (by first | omega | (have h9 := @Nat.and_le_left st1 (2 ^ e1); omega) | (rcases hasE st1 e1 with ⟨h1, h2⟩ | ⟨h1, h2⟩ <;> first | omega | simp [h2]))).symm) (Or.inl rfl) dX4_has_13
  · skip
    refine r_iconst hx hb dX4_has_8 ?_
    refine lv_goto (tgt := 13) hx hb dX4_has_9 (by decide) ?_
    exact r_zretO hx hb hr hlocks ((bI_t (by first | omega | (have h9 := @Nat.and_le_left st1 (2 ^ e1); omega) | (rcases hasE st1 e1 with ⟨h1, h2⟩ | ⟨h1, h2⟩ <;> first | omega | simp [h2]))).symm) (Or.inr rfl) dX4_has_13

set_option maxHeartbeats 4000000 in
set_option maxRecDepth 100000 in
theorem c_isSlot (l : Launch) (D : va_G) (cI cB cZ cO : ClassId) (x : Int) (rx : rg x) : Met l yX4_isSlot wsX4_isSlot ({ frames := 0, cells := 0, slots := 0, locals := 0 }) (va_Pc [.int (iI (x))] (RO D cI cB cZ cO [])) (QO (bI (0 ≤ x ∧ x < 2))) 0 0 (fun _ => False) := by
  refine startO (cc := cX4_isSlot) (maxL := 1) (ret := (some .boolean)) (by decide) rfl (Nat.le_of_ble_eq_true rfl) ?_
  intro p e s m below meth c S hr hlocks hE hP ls hl
  have hx := S.1
  have hb := S.2.1
  have hown := S.2.2.2.1
  have hts := S.2.2.2.2
  have hK := hE.1
  have hl : lv_has ls 1 [(0, .int (iI (x)))] := hl
  refine lv_iload_n hx hb dX4_isSlot_0 rfl (lv_at hl 0 rfl) ?_
  refine r_if_lt (tgt := 13) hx hb (by omega) dX4_isSlot_1 (by decide) (fun c_1 => ?_) (fun c_1 => ?_)
  · skip
    refine r_iconst hx hb dX4_isSlot_13 ?_
    exact r_zretO hx hb hr hlocks ((bI_f (by omega)).symm) (Or.inl rfl) dX4_isSlot_14
  · skip
    refine lv_iload_n hx hb dX4_isSlot_4 rfl (lv_at hl 0 rfl) ?_
    refine r_iconst hx hb dX4_isSlot_5 ?_
    refine r_icmp_ge (tgt := 13) hx hb (by omega) (⟨by decide, by decide⟩) dX4_isSlot_6 (by decide) (fun c_2 => ?_) (fun c_2 => ?_)
    · skip
      refine r_iconst hx hb dX4_isSlot_13 ?_
      exact r_zretO hx hb hr hlocks ((bI_f (by omega)).symm) (Or.inl rfl) dX4_isSlot_14
    · skip
      refine r_iconst hx hb dX4_isSlot_9 ?_
      refine lv_goto (tgt := 14) hx hb dX4_isSlot_10 (by decide) ?_
      exact r_zretO hx hb hr hlocks ((bI_t (by omega)).symm) (Or.inr rfl) dX4_isSlot_14

theorem kX1_drop_21 : Cond.fieldLink RX1 21 "PricedUndo$Row" "length" "I" ∈ wsX1_drop := by decide +kernel
theorem nX1_drop_X1 : ∀ w ∈ u_ws RX1 TX1 2, w ∈ wsX1_drop := by decide +kernel
set_option maxHeartbeats 4000000 in
set_option maxRecDepth 100000 in
theorem c_row_drop (l : Launch) (D : va_G) (cI cB cZ cO : ClassId) (sz : Nat) (h : Nat) (a1 : Nat) (n : Nat) (co : Nat → Nat) (ln : Nat) (hln : ln < 65536) : Met l yX1_drop wsX1_drop ({ frames := 0, cells := 0, slots := 0, locals := 0 }) (va_Pc [.ref h] (RW D cI cB cZ cO sz [(h, .inr (1, [.ref a1, .int (iI ((ln : Nat) : Int))])), (a1, .inl (cI, n, .inl (rN (co))))])) (QX D (S := Unit) (fun u => some (.int (iI ((ln : Nat) : Int)))) (fun u => True) (fun u => [(h, .inr (1, [.ref a1, .int (iI 0)])), (a1, .inl (cI, n, .inl (rN (co))))]) (va_A [(h, .inr (1, [.ref a1, .int (iI ((ln : Nat) : Int))])), (a1, .inl (cI, n, .inl (rN (co))))] sz)) 0 0 (va_A [(h, .inr (1, [.ref a1, .int (iI ((ln : Nat) : Int))])), (a1, .inl (cI, n, .inl (rN (co))))] sz) := by
  refine startW (cc := cX1_drop) (maxL := 2) (ret := (some .int)) (by decide) rfl (Nat.le_of_ble_eq_true rfl) ?_
  intro p e s m below meth c S hr hlocks hE hP A hD hA hS ls hl
  have hx := S.1
  have hb := S.2.1
  have hown := S.2.2.2.1
  have hts := S.2.2.2.2
  have hK := hE.1
  have hl : lv_has ls 2 [(0, .ref h)] := hl
  refine lv_aload_n hx hb dX1_drop_0 rfl (lv_at hl 0 rfl) ?_
  refine va_get (D := D) (ci := 1) (v := .int (iI ((ln : Nat) : Int))) (C := RX1) (T := TX1) (N := 2) hx hb hts nX1_drop_X1 hown hK hP 0 rfl rfl 1 (by decide) (hts _ kX1_drop_21) (fun _ h9 => h9) rfl dX1_drop_1 ?_
  refine lv_istore_n (lv' := [(1, .int (iI ((ln : Nat) : Int))), (0, .ref h)]) hx hb dX1_drop_4 rfl hl (by decide) rfl (fun ls hl => ?_)
  refine lv_aload_n hx hb dX1_drop_5 rfl (lv_at hl 1 rfl) ?_
  refine r_iconst hx hb dX1_drop_6 ?_
  refine va_put (D := D) (ci := 1) (v := .int (iI 0)) (ty := .int) (C := RX1) (T := TX1) (N := 2) hx hb hts nX1_drop_X1 tyX1 tyX1_ok nmX1 hown hK hP hD hS 0 rfl rfl 1 (by decide) (hts _ kX1_drop_21) (fun _ h9 => h9) rfl (by decide +kernel) rfl rfl (Nat.le_of_ble_eq_true rfl) dX1_drop_7 (fun H locs hP hD hS => ?_)
  have hP : va_P D vwCl [(h, .inr (1, [.ref a1, .int (iI 0)])), (a1, .inl (cI, n, .inl (rN (co))))] H := hP
  have hD : va_D A [(h, .inr (1, [.ref a1, .int (iI 0)])), (a1, .inl (cI, n, .inl (rN (co))))] := hD
  refine lv_iload_n hx hb dX1_drop_10 rfl (lv_at hl 0 rfl) ?_
  exact r_iretX hx hb hr hlocks hP hD hS () (rfl) (trivial) rfl dX1_drop_11

theorem kX1_codeAt_21 : Cond.fieldLink RX1 21 "PricedUndo$Row" "length" "I" ∈ wsX1_codeAt := by decide +kernel
theorem nX1_codeAt_X1 : ∀ w ∈ u_ws RX1 TX1 2, w ∈ wsX1_codeAt := by decide +kernel
theorem kX1_codeAt_15 : Cond.fieldLink RX1 15 "PricedUndo$Row" "codes" "[I" ∈ wsX1_codeAt := by decide +kernel
set_option maxHeartbeats 4000000 in
set_option maxRecDepth 100000 in
theorem c_row_codeAt (l : Launch) (D : va_G) (cI cB cZ cO : ClassId) (h : Nat) (a1 : Nat) (n : Nat) (co : Nat → Nat) (ln : Nat) (o : Int) (hln : ln ≤ n) (hn : n < 65536) (ro : rg o) : Met l yX1_codeAt wsX1_codeAt ({ frames := 0, cells := 0, slots := 0, locals := 0 }) (va_Pc [.ref h, .int (iI (o))] (RO D cI cB cZ cO [(h, .inr (1, [.ref a1, .int (iI ((ln : Nat) : Int))])), (a1, .inl (cI, n, .inl (rN (co))))])) (QO (rowAt co ln o)) 0 0 (fun _ => False) := by
  refine startO (cc := cX1_codeAt) (maxL := 2) (ret := (some .int)) (by decide) rfl (Nat.le_of_ble_eq_true rfl) ?_
  intro p e s m below meth c S hr hlocks hE hP ls hl
  have hx := S.1
  have hb := S.2.1
  have hown := S.2.2.2.1
  have hts := S.2.2.2.2
  have hK := hE.1
  have hl : lv_has ls 2 [(0, .ref h), (1, .int (iI (o)))] := hl
  refine lv_iload_n hx hb dX1_codeAt_0 rfl (lv_at hl 1 rfl) ?_
  refine r_if_lt (tgt := 21) hx hb (by first | omega | (unfold rowAt; rw [if_pos (by omega)]) | (unfold rowAt; rw [if_neg (by omega)])) dX1_codeAt_1 (by decide) (fun c_1 => ?_) (fun c_1 => ?_)
  · skip
    refine r_bipush hx hb dX1_codeAt_21 (by decide) ?_
    exact r_iretO hx hb hr hlocks (by first | omega | (unfold rowAt; rw [if_pos (by omega)]) | (unfold rowAt; rw [if_neg (by omega)])) dX1_codeAt_23
  · skip
    refine lv_iload_n hx hb dX1_codeAt_4 rfl (lv_at hl 1 rfl) ?_
    refine lv_aload_n hx hb dX1_codeAt_5 rfl (lv_at hl 0 rfl) ?_
    refine va_get (D := D) (ci := 1) (v := .int (iI ((ln : Nat) : Int))) (C := RX1) (T := TX1) (N := 2) hx hb hts nX1_codeAt_X1 hown hK hP 0 rfl rfl 1 (by decide) (hts _ kX1_codeAt_21) (fun _ h9 => h9) rfl dX1_codeAt_6 ?_
    refine r_icmp_ge (tgt := 21) hx hb (by first | omega | (unfold rowAt; rw [if_pos (by omega)]) | (unfold rowAt; rw [if_neg (by omega)])) (by first | omega | (unfold rowAt; rw [if_pos (by omega)]) | (unfold rowAt; rw [if_neg (by omega)])) dX1_codeAt_9 (by decide) (fun c_2 => ?_) (fun c_2 => ?_)
    · skip
      refine r_bipush hx hb dX1_codeAt_21 (by decide) ?_
      exact r_iretO hx hb hr hlocks (by first | omega | (unfold rowAt; rw [if_pos (by omega)]) | (unfold rowAt; rw [if_neg (by omega)])) dX1_codeAt_23
    · skip
      refine lv_aload_n hx hb dX1_codeAt_12 rfl (lv_at hl 0 rfl) ?_
      refine va_get (D := D) (ci := 1) (v := .ref a1) (C := RX1) (T := TX1) (N := 2) hx hb hts nX1_codeAt_X1 hown hK hP 0 rfl rfl 0 (by decide) (hts _ kX1_codeAt_15) (fun _ h9 => h9) rfl dX1_codeAt_13 ?_
      refine lv_iload_n hx hb dX1_codeAt_16 rfl (lv_at hl 1 rfl) ?_
      refine r_ialdN hx hb hK hP 1 0 rfl rfl (o.toNat) (by first | omega | (unfold rowAt; rw [if_pos (by omega)]) | (unfold rowAt; rw [if_neg (by omega)])) (by first | omega | (unfold rowAt; rw [if_pos (by omega)]) | (unfold rowAt; rw [if_neg (by omega)])) (by first | omega | (unfold rowAt; rw [if_pos (by omega)]) | (unfold rowAt; rw [if_neg (by omega)])) dX1_codeAt_17 ?_
      refine lv_goto (tgt := 23) hx hb dX1_codeAt_18 (by decide) ?_
      exact r_iretO hx hb hr hlocks (by first | omega | (unfold rowAt; rw [if_pos (by omega)]) | (unfold rowAt; rw [if_neg (by omega)])) dX1_codeAt_23

theorem kX1_add_21 : Cond.fieldLink RX1 21 "PricedUndo$Row" "length" "I" ∈ wsX1_add := by decide +kernel
theorem nX1_add_X1 : ∀ w ∈ u_ws RX1 TX1 2, w ∈ wsX1_add := by decide +kernel
theorem kX1_add_15 : Cond.fieldLink RX1 15 "PricedUndo$Row" "codes" "[I" ∈ wsX1_add := by decide +kernel
set_option maxHeartbeats 4000000 in
set_option maxRecDepth 100000 in
theorem c_row_add (l : Launch) (D : va_G) (cI cB cZ cO : ClassId) (sz : Nat) (h : Nat) (a1 : Nat) (n : Nat) (co : Nat → Nat) (ln : Nat) (x1 : Nat) (hln : ln < n) (hn : n < 65536) : Met l yX1_add wsX1_add ({ frames := 0, cells := 0, slots := 0, locals := 0 }) (va_Pc [.ref h, .int (iI ((x1 : Nat) : Int))] (RW D cI cB cZ cO sz [(h, .inr (1, [.ref a1, .int (iI ((ln : Nat) : Int))])), (a1, .inl (cI, n, .inl (rN (co))))])) (QX D (S := Unit) (fun u => some (.int (iI (bI (True))))) (fun u => True) (fun u => [(h, .inr (1, [.ref a1, .int (iI ((ln + 1 : Nat) : Int))])), (a1, .inl (cI, n, .inl (rN (up co ln (x1)))))]) (va_A [(h, .inr (1, [.ref a1, .int (iI ((ln : Nat) : Int))])), (a1, .inl (cI, n, .inl (rN (co))))] sz)) 0 0 (va_A [(h, .inr (1, [.ref a1, .int (iI ((ln : Nat) : Int))])), (a1, .inl (cI, n, .inl (rN (co))))] sz) := by
  refine startW (cc := cX1_add) (maxL := 2) (ret := (some .boolean)) (by decide) rfl (Nat.le_of_ble_eq_true rfl) ?_
  intro p e s m below meth c S hr hlocks hE hP A hD hA hS ls hl
  have hx := S.1
  have hb := S.2.1
  have hown := S.2.2.2.1
  have hts := S.2.2.2.2
  have hK := hE.1
  have hl : lv_has ls 2 [(0, .ref h), (1, .int (iI ((x1 : Nat) : Int)))] := hl
  refine lv_aload_n hx hb dX1_add_0 rfl (lv_at hl 0 rfl) ?_
  refine va_get (D := D) (ci := 1) (v := .int (iI ((ln : Nat) : Int))) (C := RX1) (T := TX1) (N := 2) hx hb hts nX1_add_X1 hown hK hP 0 rfl rfl 1 (by decide) (hts _ kX1_add_21) (fun _ h9 => h9) rfl dX1_add_1 ?_
  refine lv_aload_n hx hb dX1_add_4 rfl (lv_at hl 0 rfl) ?_
  refine va_get (D := D) (ci := 1) (v := .ref a1) (C := RX1) (T := TX1) (N := 2) hx hb hts nX1_add_X1 hown hK hP 0 rfl rfl 0 (by decide) (hts _ kX1_add_15) (fun _ h9 => h9) rfl dX1_add_5 ?_
  refine va_alen (v := iI ((n : Nat) : Int)) hx hb hK hP 1 0 rfl rfl (iI_n _).symm dX1_add_8 ?_
  refine r_icmp_lt (tgt := 14) hx hb (by first | omega | trivial) (by first | omega | trivial) dX1_add_9 (by decide) (fun c_1 => ?_) (fun c_1 => ?_)
  · skip
    refine lv_aload_n hx hb dX1_add_14 rfl (lv_at hl 0 rfl) ?_
    refine va_get (D := D) (ci := 1) (v := .ref a1) (C := RX1) (T := TX1) (N := 2) hx hb hts nX1_add_X1 hown hK hP 0 rfl rfl 0 (by decide) (hts _ kX1_add_15) (fun _ h9 => h9) rfl dX1_add_15 ?_
    refine lv_aload_n hx hb dX1_add_18 rfl (lv_at hl 0 rfl) ?_
    refine va_get (D := D) (ci := 1) (v := .int (iI ((ln : Nat) : Int))) (C := RX1) (T := TX1) (N := 2) hx hb hts nX1_add_X1 hown hK hP 0 rfl rfl 1 (by decide) (hts _ kX1_add_21) (fun _ h9 => h9) rfl dX1_add_19 ?_
    refine lv_iload_n hx hb dX1_add_22 rfl (lv_at hl 1 rfl) ?_
    refine r_iastN (v := (x1)) hx hb hK hP hD hS 1 0 rfl rfl (ln) (rfl) (by first | omega | trivial) (by first | omega | trivial) dX1_add_23 (fun H locs hP hD hS => ?_)
    have hP : va_P D vwCl [(h, .inr (1, [.ref a1, .int (iI ((ln : Nat) : Int))])), (a1, .inl (cI, n, .inl (rN (up co ln (x1)))))] H := hP
    have hD : va_D A [(h, .inr (1, [.ref a1, .int (iI ((ln : Nat) : Int))])), (a1, .inl (cI, n, .inl (rN (up co ln (x1)))))] := hD
    refine lv_aload_n hx hb dX1_add_24 rfl (lv_at hl 0 rfl) ?_
    refine lv_dup hx hb dX1_add_25 rfl ?_
    refine va_get (D := D) (ci := 1) (v := .int (iI ((ln : Nat) : Int))) (C := RX1) (T := TX1) (N := 2) hx hb hts nX1_add_X1 hown hK hP 0 rfl rfl 1 (by decide) (hts _ kX1_add_21) (fun _ h9 => h9) rfl dX1_add_26 ?_
    refine r_iconst hx hb dX1_add_29 ?_
    refine r_iadd (v := ((ln + 1 : Nat) : Int)) hx hb (rfl) dX1_add_30 ?_
    refine va_put (D := D) (ci := 1) (v := .int (iI ((ln + 1 : Nat) : Int))) (ty := .int) (C := RX1) (T := TX1) (N := 2) hx hb hts nX1_add_X1 tyX1 tyX1_ok nmX1 hown hK hP hD hS 0 rfl rfl 1 (by decide) (hts _ kX1_add_21) (fun _ h9 => h9) rfl (by decide +kernel) rfl rfl (Nat.le_of_ble_eq_true rfl) dX1_add_31 (fun H locs hP hD hS => ?_)
    have hP : va_P D vwCl [(h, .inr (1, [.ref a1, .int (iI ((ln + 1 : Nat) : Int))])), (a1, .inl (cI, n, .inl (rN (up co ln (x1)))))] H := hP
    have hD : va_D A [(h, .inr (1, [.ref a1, .int (iI ((ln + 1 : Nat) : Int))])), (a1, .inl (cI, n, .inl (rN (up co ln (x1)))))] := hD
    refine r_iconst hx hb dX1_add_34 ?_
    exact r_zretX hx hb hr hlocks hP hD hS () (congrArg (fun z => some (Value.int (iI z))) (((bI_t (by first | omega | trivial)).symm : 1 = (bI (True))).symm)) (trivial) rfl (Or.inr rfl) dX1_add_35
  · skip
    refine r_iconst hx hb dX1_add_12 ?_
    exfalso; omega

set_option maxHeartbeats 4000000 in
set_option maxRecDepth 100000 in
theorem c_row_full (l : Launch) (D : va_G) (cI cB cZ cO : ClassId) (sz : Nat) (h : Nat) (a1 : Nat) (n : Nat) (co : Nat → Nat) (ln : Nat) (x1 : Nat) (hln : n ≤ ln) (hn : ln < 65536) : Met l yX1_add wsX1_add ({ frames := 0, cells := 0, slots := 0, locals := 0 }) (va_Pc [.ref h, .int (iI ((x1 : Nat) : Int))] (RW D cI cB cZ cO sz [(h, .inr (1, [.ref a1, .int (iI ((ln : Nat) : Int))])), (a1, .inl (cI, n, .inl (rN (co))))])) (QX D (S := Unit) (fun u => some (.int (iI (bI (False))))) (fun u => True) (fun u => [(h, .inr (1, [.ref a1, .int (iI ((ln : Nat) : Int))])), (a1, .inl (cI, n, .inl (rN (co))))]) (va_A [(h, .inr (1, [.ref a1, .int (iI ((ln : Nat) : Int))])), (a1, .inl (cI, n, .inl (rN (co))))] sz)) 0 0 (va_A [(h, .inr (1, [.ref a1, .int (iI ((ln : Nat) : Int))])), (a1, .inl (cI, n, .inl (rN (co))))] sz) := by
  refine startW (cc := cX1_add) (maxL := 2) (ret := (some .boolean)) (by decide) rfl (Nat.le_of_ble_eq_true rfl) ?_
  intro p e s m below meth c S hr hlocks hE hP A hD hA hS ls hl
  have hx := S.1
  have hb := S.2.1
  have hown := S.2.2.2.1
  have hts := S.2.2.2.2
  have hK := hE.1
  have hl : lv_has ls 2 [(0, .ref h), (1, .int (iI ((x1 : Nat) : Int)))] := hl
  refine lv_aload_n hx hb dX1_add_0 rfl (lv_at hl 0 rfl) ?_
  refine va_get (D := D) (ci := 1) (v := .int (iI ((ln : Nat) : Int))) (C := RX1) (T := TX1) (N := 2) hx hb hts nX1_add_X1 hown hK hP 0 rfl rfl 1 (by decide) (hts _ kX1_add_21) (fun _ h9 => h9) rfl dX1_add_1 ?_
  refine lv_aload_n hx hb dX1_add_4 rfl (lv_at hl 0 rfl) ?_
  refine va_get (D := D) (ci := 1) (v := .ref a1) (C := RX1) (T := TX1) (N := 2) hx hb hts nX1_add_X1 hown hK hP 0 rfl rfl 0 (by decide) (hts _ kX1_add_15) (fun _ h9 => h9) rfl dX1_add_5 ?_
  refine va_alen (v := iI ((n : Nat) : Int)) hx hb hK hP 1 0 rfl rfl (iI_n _).symm dX1_add_8 ?_
  refine r_icmp_lt (tgt := 14) hx hb (by first | omega | (intro h; exact h)) (by first | omega | (intro h; exact h)) dX1_add_9 (by decide) (fun c_1 => ?_) (fun c_1 => ?_)
  · skip
    refine lv_aload_n hx hb dX1_add_14 rfl (lv_at hl 0 rfl) ?_
    exfalso; omega
  · skip
    refine r_iconst hx hb dX1_add_12 ?_
    exact r_zretX hx hb hr hlocks hP hD hS () (congrArg (fun z => some (Value.int (iI z))) (((bI_f (by first | omega | (intro h; exact h))).symm : 0 = (bI (False))).symm)) (trivial) rfl (Or.inl rfl) dX1_add_13

theorem kX0_isVisible_15 : Cond.fieldLink RX0 15 "PricedUndo$Buffer" "owners" "[I" ∈ wsX0_isVisible := by decide +kernel
theorem nX0_isVisible_X0 : ∀ w ∈ u_ws RX0 TX0 11, w ∈ wsX0_isVisible := by decide +kernel
theorem kX0_isVisible_18 : Cond.fieldLink RX0 18 "PricedUndo$Buffer" "erasers" "[I" ∈ wsX0_isVisible := by decide +kernel
set_option maxHeartbeats 4000000 in
set_option maxRecDepth 100000 in
theorem c_isVisible (l : Launch) (D : va_G) (cI cB cZ cO : ClassId) (h : Nat) (a1 : Nat) (a2 : Nat) (a3 : Nat) (a4 : Nat) (a5 : Nat) (tt : Nat) (ln : Nat) (ed : Nat) (es : Nat) (ac : Nat) (cu : Nat) (ow : Nat → Nat) (er : Nat → Nat) (k : Nat) (act : Nat) (hk : k < 160) (hact : act < 65536) (how : ∀ k, ow k < 65536) (her : ∀ k, er k < 65536) : Met l yX0_isVisible wsX0_isVisible ({ frames := 0, cells := 0, slots := 0, locals := 0 }) (va_Pc [.ref h, .int (iI ((k : Nat) : Int)), .int (iI ((act : Nat) : Int))] (RO D cI cB cZ cO [(h, .inr (0, [.ref a1, .ref a2, .ref a3, .int (iI ((tt : Nat) : Int)), .ref a4, .int (iI ((ln : Nat) : Int)), .ref a5, .int (iI ((ed : Nat) : Int)), .int (iI ((es : Nat) : Int)), .int (iI ((ac : Nat) : Int)), .int (iI ((cu : Nat) : Int))])), (a2, .inl (cI, 160, .inl (rN (ow)))), (a3, .inl (cI, 160, .inl (rN (er))))])) (QO (bI (vis ow er act k))) 0 0 (fun _ => False) := by
  refine startO (cc := cX0_isVisible) (maxL := 3) (ret := (some .boolean)) (by decide) rfl (Nat.le_of_ble_eq_true rfl) ?_
  intro p e s m below meth c S hr hlocks hE hP ls hl
  have hx := S.1
  have hb := S.2.1
  have hown := S.2.2.2.1
  have hts := S.2.2.2.2
  have hK := hE.1
  have hl : lv_has ls 3 [(0, .ref h), (1, .int (iI ((k : Nat) : Int))), (2, .int (iI ((act : Nat) : Int)))] := hl
  refine lv_aload_n hx hb dX0_isVisible_0 rfl (lv_at hl 0 rfl) ?_
  refine va_get (D := D) (ci := 0) (v := .ref a2) (C := RX0) (T := TX0) (N := 11) hx hb hts nX0_isVisible_X0 hown hK hP 0 rfl rfl 1 (by decide) (hts _ kX0_isVisible_15) (fun _ h9 => h9) rfl dX0_isVisible_1 ?_
  refine lv_iload_n hx hb dX0_isVisible_4 rfl (lv_at hl 1 rfl) ?_
  refine r_ialdN hx hb hK hP 1 0 rfl rfl (k) (rfl) (by first | omega | (have h1 := how k; have h2 := her k; have h3 := nd_le (ow k) act; have h4 := @Nat.and_le_left (er k) act; omega) | (refine ⟨?_, ?_⟩ <;> omega) | (intro h9; have h8 := h9.1; have h7 := h9.2; omega)) (by decide) dX0_isVisible_5 ?_
  refine lv_iload_n hx hb dX0_isVisible_6 rfl (lv_at hl 2 rfl) ?_
  refine r_iconst hx hb dX0_isVisible_7 ?_
  refine r_inot (v := (-1 - ((act : Nat) : Int))) hx hb (rfl) dX0_isVisible_8 ?_
  refine r_iandnot hx hb (ow k) (act) (rfl) rfl dX0_isVisible_9 ?_
  refine r_if_ne (tgt := 28) hx hb (by first | omega | (have h1 := how k; have h2 := her k; have h3 := nd_le (ow k) act; have h4 := @Nat.and_le_left (er k) act; omega) | (refine ⟨?_, ?_⟩ <;> omega) | (intro h9; have h8 := h9.1; have h7 := h9.2; omega)) dX0_isVisible_10 (by decide) (fun c_1 => ?_) (fun c_1 => ?_)
  · skip
    refine r_iconst hx hb dX0_isVisible_28 ?_
    exact r_zretO hx hb hr hlocks ((bI_f (by first | omega | (have h1 := how k; have h2 := her k; have h3 := nd_le (ow k) act; have h4 := @Nat.and_le_left (er k) act; omega) | (refine ⟨?_, ?_⟩ <;> omega) | (intro h9; have h8 := h9.1; have h7 := h9.2; omega))).symm) (Or.inl rfl) dX0_isVisible_29
  · skip
    refine lv_aload_n hx hb dX0_isVisible_13 rfl (lv_at hl 0 rfl) ?_
    refine va_get (D := D) (ci := 0) (v := .ref a3) (C := RX0) (T := TX0) (N := 11) hx hb hts nX0_isVisible_X0 hown hK hP 0 rfl rfl 2 (by decide) (hts _ kX0_isVisible_18) (fun _ h9 => h9) rfl dX0_isVisible_14 ?_
    refine lv_iload_n hx hb dX0_isVisible_17 rfl (lv_at hl 1 rfl) ?_
    refine r_ialdN hx hb hK hP 2 0 rfl rfl (k) (rfl) (by first | omega | (have h1 := how k; have h2 := her k; have h3 := nd_le (ow k) act; have h4 := @Nat.and_le_left (er k) act; omega) | (refine ⟨?_, ?_⟩ <;> omega) | (intro h9; have h8 := h9.1; have h7 := h9.2; omega)) (by decide) dX0_isVisible_18 ?_
    refine lv_iload_n hx hb dX0_isVisible_19 rfl (lv_at hl 2 rfl) ?_
    refine r_iand hx hb (er k) (act) (rfl) (rfl) dX0_isVisible_20 ?_
    refine r_if_ne (tgt := 28) hx hb (by first | omega | (have h1 := how k; have h2 := her k; have h3 := nd_le (ow k) act; have h4 := @Nat.and_le_left (er k) act; omega) | (refine ⟨?_, ?_⟩ <;> omega) | (intro h9; have h8 := h9.1; have h7 := h9.2; omega)) dX0_isVisible_21 (by decide) (fun c_2 => ?_) (fun c_2 => ?_)
    · skip
      refine r_iconst hx hb dX0_isVisible_28 ?_
      exact r_zretO hx hb hr hlocks ((bI_f (by first | omega | (have h1 := how k; have h2 := her k; have h3 := nd_le (ow k) act; have h4 := @Nat.and_le_left (er k) act; omega) | (refine ⟨?_, ?_⟩ <;> omega) | (intro h9; have h8 := h9.1; have h7 := h9.2; omega))).symm) (Or.inl rfl) dX0_isVisible_29
    · skip
      refine r_iconst hx hb dX0_isVisible_24 ?_
      refine lv_goto (tgt := 29) hx hb dX0_isVisible_25 (by decide) ?_
      exact r_zretO hx hb hr hlocks ((bI_t (by first | omega | (have h1 := how k; have h2 := her k; have h3 := nd_le (ow k) act; have h4 := @Nat.and_le_left (er k) act; omega) | (refine ⟨?_, ?_⟩ <;> omega) | (intro h9; have h8 := h9.1; have h7 := h9.2; omega))).symm) (Or.inr rfl) dX0_isVisible_29

theorem kX0_visibleAhead_39 : Cond.fieldLink RX0 39 "PricedUndo$Buffer" "total" "I" ∈ wsX0_visibleAhead := by decide +kernel
theorem nX0_visibleAhead_X0 : ∀ w ∈ u_ws RX0 TX0 11, w ∈ wsX0_visibleAhead := by decide +kernel
set_option maxHeartbeats 4000000 in
set_option maxRecDepth 100000 in
theorem c_visibleAhead (l : Launch) (D : va_G) (cI cB cZ cO : ClassId) (h : Nat) (a1 : Nat) (a2 : Nat) (a3 : Nat) (a4 : Nat) (a5 : Nat) (tt : Nat) (ln : Nat) (ed : Nat) (es : Nat) (ac : Nat) (cu : Nat) (ow : Nat → Nat) (er : Nat → Nat) (idx : Nat) (act : Nat) (htt : tt ≤ 160) (hidx : idx < 65536) (hact : act < 65536) (how : ∀ k, ow k < 65536) (her : ∀ k, er k < 65536) : Met l yX0_visibleAhead wsX0_visibleAhead ({ frames := 1, cells := 0, slots := 0, locals := 22 }) (va_Pc [.ref h, .int (iI ((idx : Nat) : Int)), .int (iI ((act : Nat) : Int))] (RO D cI cB cZ cO [(h, .inr (0, [.ref a1, .ref a2, .ref a3, .int (iI ((tt : Nat) : Int)), .ref a4, .int (iI ((ln : Nat) : Int)), .ref a5, .int (iI ((ed : Nat) : Int)), .int (iI ((es : Nat) : Int)), .int (iI ((ac : Nat) : Int)), .int (iI ((cu : Nat) : Int))])), (a2, .inl (cI, 160, .inl (rN (ow)))), (a3, .inl (cI, 160, .inl (rN (er))))])) (QO ((cnt (visb ow er act) (min idx tt) : Nat) : Int)) 0 0 (fun _ => False) := by
  refine startO (cc := cX0_visibleAhead) (maxL := 5) (ret := (some .int)) (by decide) rfl (Nat.le_of_ble_eq_true rfl) ?_
  intro p e s m below meth c S hr hlocks hE hP ls hl
  have hx := S.1
  have hb := S.2.1
  have hown := S.2.2.2.1
  have hts := S.2.2.2.2
  have hK := hE.1
  have hl : lv_has ls 5 [(0, .ref h), (1, .int (iI ((idx : Nat) : Int))), (2, .int (iI ((act : Nat) : Int)))] := hl
  refine r_iconst hx hb dX0_visibleAhead_0 ?_
  refine lv_istore_n (lv' := [(3, .int (iI 0)), (0, .ref h), (1, .int (iI ((idx : Nat) : Int))), (2, .int (iI ((act : Nat) : Int)))]) hx hb dX0_visibleAhead_1 rfl hl (by decide) rfl (fun ls hl => ?_)
  refine r_iconst hx hb dX0_visibleAhead_2 ?_
  refine lv_istore (lv' := [(4, .int (iI 0)), (3, .int (iI 0)), (0, .ref h), (1, .int (iI ((idx : Nat) : Int))), (2, .int (iI ((act : Nat) : Int)))]) hx hb dX0_visibleAhead_3 hl (by decide) rfl (fun ls hl => ?_)
  have loop_5 : ∀ (n_5 : Nat) (k : Nat), (min idx tt - k) < n_5 → (k ≤ min idx tt) → ∀ (ls : Array Slot), lv_has ls 5 [(0, .ref h), (1, .int (iI ((idx : Nat) : Int))), (2, .int (iI ((act : Nat) : Int))), (3, .int (iI ((cnt (visb ow er act) k : Nat) : Int))), (4, .int (iI ((k : Nat) : Int)))] → W p l e ({ frames := 1, cells := 0, slots := 0, locals := 22 }) s m ([.ref h, .int (iI ((idx : Nat) : Int)), .int (iI ((act : Nat) : Int))] : List Value).toArray below meth c s.heap [] 0 0 (MQ below (QO ((cnt (visb ow er act) (min idx tt) : Nat) : Int)) ([.ref h, .int (iI ((idx : Nat) : Int)), .int (iI ((act : Nat) : Int))] : List Value).toArray s 0 0 (fun _ => False)) (F0 m 5 ls []) := by
    intro n_5
    induction n_5 with
    | zero => intro k h_meas; exact absurd h_meas (Nat.not_lt_zero _)
    | succ n_5 ih_5 =>
      intro k h_m5 ik ls hl
      refine lv_iload hx hb dX0_visibleAhead_5 (lv_at hl 4 rfl) ?_
      refine lv_iload_n hx hb dX0_visibleAhead_7 rfl (lv_at hl 1 rfl) ?_
      refine r_icmp_ge (tgt := 39) hx hb (by first | omega | (rw [show min idx tt = k by omega])) (by first | omega | (rw [show min idx tt = k by omega])) dX0_visibleAhead_8 (by decide) (fun c_1 => ?_) (fun c_1 => ?_)
      · skip
        refine lv_iload_n hx hb dX0_visibleAhead_39 rfl (lv_at hl 3 rfl) ?_
        exact r_iretO hx hb hr hlocks (by first | omega | (rw [show min idx tt = k by omega])) dX0_visibleAhead_40
      · skip
        refine lv_iload hx hb dX0_visibleAhead_11 (lv_at hl 4 rfl) ?_
        refine lv_aload_n hx hb dX0_visibleAhead_13 rfl (lv_at hl 0 rfl) ?_
        refine va_get (D := D) (ci := 0) (v := .int (iI ((tt : Nat) : Int))) (C := RX0) (T := TX0) (N := 11) hx hb hts nX0_visibleAhead_X0 hown hK hP 0 rfl rfl 3 (by decide) (hts _ kX0_visibleAhead_39) (fun _ h9 => h9) rfl dX0_visibleAhead_14 ?_
        refine r_icmp_ge (tgt := 39) hx hb (by first | omega | (rw [show min idx tt = k by omega])) (by first | omega | (rw [show min idx tt = k by omega])) dX0_visibleAhead_17 (by decide) (fun c_2 => ?_) (fun c_2 => ?_)
        · skip
          refine lv_iload_n hx hb dX0_visibleAhead_39 rfl (lv_at hl 3 rfl) ?_
          exact r_iretO hx hb hr hlocks (by first | omega | (rw [show min idx tt = k by omega])) dX0_visibleAhead_40
        · skip
          refine lv_aload_n hx hb dX0_visibleAhead_20 rfl (lv_at hl 0 rfl) ?_
          refine lv_iload hx hb dX0_visibleAhead_21 (lv_at hl 4 rfl) ?_
          refine lv_iload_n hx hb dX0_visibleAhead_23 rfl (lv_at hl 2 rfl) ?_
          refine callVO (n := 2) (As := [.int (iI ((k : Nat) : Int)), .int (iI ((act : Nat) : Int))]) (rest := []) (wc := [(h, .inr (0, [.ref a1, .ref a2, .ref a3, .int (iI ((tt : Nat) : Int)), .ref a4, .int (iI ((ln : Nat) : Int)), .ref a5, .int (iI ((ed : Nat) : Int)), .int (iI ((es : Nat) : Int)), .int (iI ((ac : Nat) : Int)), .int (iI ((cu : Nat) : Int))])), (a2, .inl (cI, 160, .inl (rN (ow)))), (a3, .inl (cI, 160, .inl (rN (er))))]) S (c_isVisible l D cI cB cZ cO h a1 a2 a3 a4 a5 tt ln ed es ac cu ow er k act (by first | assumption | (first | omega | (rw [show min idx tt = k by omega]))) (by first | assumption | (first | omega | (rw [show min idx tt = k by omega]))) (by first | assumption | (first | omega | (rw [show min idx tt = k by omega]))) (by first | assumption | (first | omega | (rw [show min idx tt = k by omega])))) gX0_visibleAhead_X0_isVisible rfl ⟨rfl, rfl⟩ (by decide +kernel) ⟨Nat.le_of_ble_eq_true rfl, Nat.le_of_ble_eq_true rfl⟩ hE hP [0, 1, 2] rfl 0 0 rfl rfl rfl hl.1 rfl (Nat.le_of_ble_eq_true rfl) dX0_visibleAhead_24 ⟨Nat.le_of_ble_eq_true rfl, Nat.le_of_ble_eq_true rfl⟩ ?_
          refine r_ifb_eq (tgt := 33) hx hb dX0_visibleAhead_27 (by decide) (fun c_3 => ?_) (fun c_3 => ?_)
          · skip
            refine lv_iinc (v := iI ((k + 1 : Nat) : Int)) (lv' := [(4, .int (iI ((k + 1 : Nat) : Int))), (0, .ref h), (1, .int (iI ((idx : Nat) : Int))), (2, .int (iI ((act : Nat) : Int))), (3, .int (iI ((cnt (visb ow er act) k : Nat) : Int)))]) hx hb dX0_visibleAhead_33 hl (k := 4) rfl ((iI_add _ _).trans (ii (rfl))) (by decide) rfl (fun ls hl => ?_)
            refine lv_goto (tgt := 5) hx hb dX0_visibleAhead_36 (by decide) ?_
            have hl : lv_has ls 5 [(4, .int (iI ((k + 1 : Nat) : Int))), (0, .ref h), (1, .int (iI ((idx : Nat) : Int))), (2, .int (iI ((act : Nat) : Int))), (3, .int (iI ((cnt (visb ow er act) (k + 1) : Nat) : Int)))] := lv_chg hl 4 3 rfl (show (((cnt (visb ow er act) k : Nat) : Int) : Int) = ((cnt (visb ow er act) (k + 1) : Nat) : Int) from by first | (rw [cnt_vt (by assumption)]) | (rw [cnt_vf (by assumption)])) rfl
            exact ih_5 (k + 1) (by first | omega | (rw [show min idx tt = k by omega])) (by first | assumption | (first | omega | (rw [show min idx tt = k by omega]))) ls (lv_sub hl [1, 2, 3, 4, 0] rfl)
          · skip
            refine lv_iinc (v := iI (((cnt (visb ow er act) k) + 1 : Nat) : Int)) (lv' := [(3, .int (iI (((cnt (visb ow er act) k) + 1 : Nat) : Int))), (0, .ref h), (1, .int (iI ((idx : Nat) : Int))), (2, .int (iI ((act : Nat) : Int))), (4, .int (iI ((k : Nat) : Int)))]) hx hb dX0_visibleAhead_30 hl (k := 3) rfl ((iI_add _ _).trans (ii (rfl))) (by decide) rfl (fun ls hl => ?_)
            refine lv_iinc (v := iI ((k + 1 : Nat) : Int)) (lv' := [(4, .int (iI ((k + 1 : Nat) : Int))), (3, .int (iI (((cnt (visb ow er act) k) + 1 : Nat) : Int))), (0, .ref h), (1, .int (iI ((idx : Nat) : Int))), (2, .int (iI ((act : Nat) : Int)))]) hx hb dX0_visibleAhead_33 hl (k := 4) rfl ((iI_add _ _).trans (ii (rfl))) (by decide) rfl (fun ls hl => ?_)
            refine lv_goto (tgt := 5) hx hb dX0_visibleAhead_36 (by decide) ?_
            have hl : lv_has ls 5 [(4, .int (iI ((k + 1 : Nat) : Int))), (3, .int (iI ((cnt (visb ow er act) (k + 1) : Nat) : Int))), (0, .ref h), (1, .int (iI ((idx : Nat) : Int))), (2, .int (iI ((act : Nat) : Int)))] := lv_chg hl 1 3 rfl (show ((((cnt (visb ow er act) k) + 1 : Nat) : Int) : Int) = ((cnt (visb ow er act) (k + 1) : Nat) : Int) from by first | (rw [cnt_vt (by assumption)]) | (rw [cnt_vf (by assumption)])) rfl
            exact ih_5 (k + 1) (by first | omega | (rw [show min idx tt = k by omega])) (by first | assumption | (first | omega | (rw [show min idx tt = k by omega]))) ls (lv_sub hl [2, 3, 4, 1, 0] rfl)
  have hl : lv_has ls 5 [(4, .int (iI 0)), (3, .int (iI ((cnt (visb ow er act) 0 : Nat) : Int))), (0, .ref h), (1, .int (iI ((idx : Nat) : Int))), (2, .int (iI ((act : Nat) : Int)))] := lv_chg hl 1 3 rfl (show (0 : Int) = ((cnt (visb ow er act) 0 : Nat) : Int) from by rfl) rfl
  exact loop_5 ((min idx tt - 0) + 1) 0 (by first | omega | (rw [show min idx tt = k by omega])) (by first | assumption | (first | omega | (rw [show min idx tt = k by omega]))) ls (lv_sub hl [2, 3, 4, 1, 0] rfl)

theorem kX0_hasPlace_71 : Cond.fieldLink RX0 71 "PricedUndo$Buffer" "length" "I" ∈ wsX0_hasPlace := by decide +kernel
theorem nX0_hasPlace_X0 : ∀ w ∈ u_ws RX0 TX0 11, w ∈ wsX0_hasPlace := by decide +kernel
set_option maxHeartbeats 4000000 in
set_option maxRecDepth 100000 in
theorem c_hasPlace (l : Launch) (D : va_G) (cI cB cZ cO : ClassId) (h : Nat) (a1 : Nat) (a2 : Nat) (a3 : Nat) (a4 : Nat) (a5 : Nat) (tt : Nat) (ln : Nat) (ed : Nat) (es : Nat) (ac : Nat) (cu : Nat) (x : Int) (hln : ln ≤ 60) (rx : rg x) : Met l yX0_hasPlace wsX0_hasPlace ({ frames := 0, cells := 0, slots := 0, locals := 0 }) (va_Pc [.ref h, .int (iI (x))] (RO D cI cB cZ cO [(h, .inr (0, [.ref a1, .ref a2, .ref a3, .int (iI ((tt : Nat) : Int)), .ref a4, .int (iI ((ln : Nat) : Int)), .ref a5, .int (iI ((ed : Nat) : Int)), .int (iI ((es : Nat) : Int)), .int (iI ((ac : Nat) : Int)), .int (iI ((cu : Nat) : Int))]))])) (QO (bI (0 ≤ x ∧ x < (ln : Int)))) 0 0 (fun _ => False) := by
  refine startO (cc := cX0_hasPlace) (maxL := 2) (ret := (some .boolean)) (by decide) rfl (Nat.le_of_ble_eq_true rfl) ?_
  intro p e s m below meth c S hr hlocks hE hP ls hl
  have hx := S.1
  have hb := S.2.1
  have hown := S.2.2.2.1
  have hts := S.2.2.2.2
  have hK := hE.1
  have hl : lv_has ls 2 [(0, .ref h), (1, .int (iI (x)))] := hl
  refine lv_iload_n hx hb dX0_hasPlace_0 rfl (lv_at hl 1 rfl) ?_
  refine r_if_lt (tgt := 16) hx hb (by omega) dX0_hasPlace_1 (by decide) (fun c_1 => ?_) (fun c_1 => ?_)
  · skip
    refine r_iconst hx hb dX0_hasPlace_16 ?_
    exact r_zretO hx hb hr hlocks ((bI_f (by omega)).symm) (Or.inl rfl) dX0_hasPlace_17
  · skip
    refine lv_iload_n hx hb dX0_hasPlace_4 rfl (lv_at hl 1 rfl) ?_
    refine lv_aload_n hx hb dX0_hasPlace_5 rfl (lv_at hl 0 rfl) ?_
    refine va_get (D := D) (ci := 0) (v := .int (iI ((ln : Nat) : Int))) (C := RX0) (T := TX0) (N := 11) hx hb hts nX0_hasPlace_X0 hown hK hP 0 rfl rfl 5 (by decide) (hts _ kX0_hasPlace_71) (fun _ h9 => h9) rfl dX0_hasPlace_6 ?_
    refine r_icmp_ge (tgt := 16) hx hb (by omega) (by omega) dX0_hasPlace_9 (by decide) (fun c_2 => ?_) (fun c_2 => ?_)
    · skip
      refine r_iconst hx hb dX0_hasPlace_16 ?_
      exact r_zretO hx hb hr hlocks ((bI_f (by omega)).symm) (Or.inl rfl) dX0_hasPlace_17
    · skip
      refine r_iconst hx hb dX0_hasPlace_12 ?_
      refine lv_goto (tgt := 17) hx hb dX0_hasPlace_13 (by decide) ?_
      exact r_zretO hx hb hr hlocks ((bI_t (by omega)).symm) (Or.inr rfl) dX0_hasPlace_17

theorem kX0_hasStretch_71 : Cond.fieldLink RX0 71 "PricedUndo$Buffer" "length" "I" ∈ wsX0_hasStretch := by decide +kernel
theorem nX0_hasStretch_X0 : ∀ w ∈ u_ws RX0 TX0 11, w ∈ wsX0_hasStretch := by decide +kernel
set_option maxHeartbeats 4000000 in
set_option maxRecDepth 100000 in
theorem c_hasStretch (l : Launch) (D : va_G) (cI cB cZ cO : ClassId) (h : Nat) (a1 : Nat) (a2 : Nat) (a3 : Nat) (a4 : Nat) (a5 : Nat) (tt : Nat) (ln : Nat) (ed : Nat) (es : Nat) (ac : Nat) (cu : Nat) (x : Int) (y : Int) (hln : ln ≤ 60) (rx : rg x) (ry : rg y) : Met l yX0_hasStretch wsX0_hasStretch ({ frames := 0, cells := 0, slots := 0, locals := 0 }) (va_Pc [.ref h, .int (iI (x)), .int (iI (y))] (RO D cI cB cZ cO [(h, .inr (0, [.ref a1, .ref a2, .ref a3, .int (iI ((tt : Nat) : Int)), .ref a4, .int (iI ((ln : Nat) : Int)), .ref a5, .int (iI ((ed : Nat) : Int)), .int (iI ((es : Nat) : Int)), .int (iI ((ac : Nat) : Int)), .int (iI ((cu : Nat) : Int))]))])) (QO (bI (0 ≤ x ∧ x < y ∧ y ≤ (ln : Int)))) 0 0 (fun _ => False) := by
  refine startO (cc := cX0_hasStretch) (maxL := 3) (ret := (some .boolean)) (by decide) rfl (Nat.le_of_ble_eq_true rfl) ?_
  intro p e s m below meth c S hr hlocks hE hP ls hl
  have hx := S.1
  have hb := S.2.1
  have hown := S.2.2.2.1
  have hts := S.2.2.2.2
  have hK := hE.1
  have hl : lv_has ls 3 [(0, .ref h), (1, .int (iI (x))), (2, .int (iI (y)))] := hl
  refine lv_iload_n hx hb dX0_hasStretch_0 rfl (lv_at hl 1 rfl) ?_
  refine r_if_lt (tgt := 21) hx hb (by omega) dX0_hasStretch_1 (by decide) (fun c_1 => ?_) (fun c_1 => ?_)
  · skip
    refine r_iconst hx hb dX0_hasStretch_21 ?_
    exact r_zretO hx hb hr hlocks ((bI_f (by omega)).symm) (Or.inl rfl) dX0_hasStretch_22
  · skip
    refine lv_iload_n hx hb dX0_hasStretch_4 rfl (lv_at hl 1 rfl) ?_
    refine lv_iload_n hx hb dX0_hasStretch_5 rfl (lv_at hl 2 rfl) ?_
    refine r_icmp_ge (tgt := 21) hx hb (by omega) (by omega) dX0_hasStretch_6 (by decide) (fun c_2 => ?_) (fun c_2 => ?_)
    · skip
      refine r_iconst hx hb dX0_hasStretch_21 ?_
      exact r_zretO hx hb hr hlocks ((bI_f (by omega)).symm) (Or.inl rfl) dX0_hasStretch_22
    · skip
      refine lv_iload_n hx hb dX0_hasStretch_9 rfl (lv_at hl 2 rfl) ?_
      refine lv_aload_n hx hb dX0_hasStretch_10 rfl (lv_at hl 0 rfl) ?_
      refine va_get (D := D) (ci := 0) (v := .int (iI ((ln : Nat) : Int))) (C := RX0) (T := TX0) (N := 11) hx hb hts nX0_hasStretch_X0 hown hK hP 0 rfl rfl 5 (by decide) (hts _ kX0_hasStretch_71) (fun _ h9 => h9) rfl dX0_hasStretch_11 ?_
      refine r_icmp_gt (tgt := 21) hx hb (by omega) (by omega) dX0_hasStretch_14 (by decide) (fun c_3 => ?_) (fun c_3 => ?_)
      · skip
        refine r_iconst hx hb dX0_hasStretch_21 ?_
        exact r_zretO hx hb hr hlocks ((bI_f (by omega)).symm) (Or.inl rfl) dX0_hasStretch_22
      · skip
        refine r_iconst hx hb dX0_hasStretch_17 ?_
        refine lv_goto (tgt := 22) hx hb dX0_hasStretch_18 (by decide) ?_
        exact r_zretO hx hb hr hlocks ((bI_t (by omega)).symm) (Or.inr rfl) dX0_hasStretch_22

theorem kX0_hasEdit_50 : Cond.fieldLink RX0 50 "PricedUndo$Buffer" "edits" "I" ∈ wsX0_hasEdit := by decide +kernel
theorem nX0_hasEdit_X0 : ∀ w ∈ u_ws RX0 TX0 11, w ∈ wsX0_hasEdit := by decide +kernel
set_option maxHeartbeats 4000000 in
set_option maxRecDepth 100000 in
theorem c_hasEdit (l : Launch) (D : va_G) (cI cB cZ cO : ClassId) (h : Nat) (a1 : Nat) (a2 : Nat) (a3 : Nat) (a4 : Nat) (a5 : Nat) (tt : Nat) (ln : Nat) (ed : Nat) (es : Nat) (ac : Nat) (cu : Nat) (x : Int) (hed : ed ≤ 16) (rx : rg x) : Met l yX0_hasEdit wsX0_hasEdit ({ frames := 0, cells := 0, slots := 0, locals := 0 }) (va_Pc [.ref h, .int (iI (x))] (RO D cI cB cZ cO [(h, .inr (0, [.ref a1, .ref a2, .ref a3, .int (iI ((tt : Nat) : Int)), .ref a4, .int (iI ((ln : Nat) : Int)), .ref a5, .int (iI ((ed : Nat) : Int)), .int (iI ((es : Nat) : Int)), .int (iI ((ac : Nat) : Int)), .int (iI ((cu : Nat) : Int))]))])) (QO (bI (0 ≤ x ∧ x < (ed : Int)))) 0 0 (fun _ => False) := by
  refine startO (cc := cX0_hasEdit) (maxL := 2) (ret := (some .boolean)) (by decide) rfl (Nat.le_of_ble_eq_true rfl) ?_
  intro p e s m below meth c S hr hlocks hE hP ls hl
  have hx := S.1
  have hb := S.2.1
  have hown := S.2.2.2.1
  have hts := S.2.2.2.2
  have hK := hE.1
  have hl : lv_has ls 2 [(0, .ref h), (1, .int (iI (x)))] := hl
  refine lv_iload_n hx hb dX0_hasEdit_0 rfl (lv_at hl 1 rfl) ?_
  refine r_if_lt (tgt := 16) hx hb (by omega) dX0_hasEdit_1 (by decide) (fun c_1 => ?_) (fun c_1 => ?_)
  · skip
    refine r_iconst hx hb dX0_hasEdit_16 ?_
    exact r_zretO hx hb hr hlocks ((bI_f (by omega)).symm) (Or.inl rfl) dX0_hasEdit_17
  · skip
    refine lv_iload_n hx hb dX0_hasEdit_4 rfl (lv_at hl 1 rfl) ?_
    refine lv_aload_n hx hb dX0_hasEdit_5 rfl (lv_at hl 0 rfl) ?_
    refine va_get (D := D) (ci := 0) (v := .int (iI ((ed : Nat) : Int))) (C := RX0) (T := TX0) (N := 11) hx hb hts nX0_hasEdit_X0 hown hK hP 0 rfl rfl 7 (by decide) (hts _ kX0_hasEdit_50) (fun _ h9 => h9) rfl dX0_hasEdit_6 ?_
    refine r_icmp_ge (tgt := 16) hx hb (by omega) (by omega) dX0_hasEdit_9 (by decide) (fun c_2 => ?_) (fun c_2 => ?_)
    · skip
      refine r_iconst hx hb dX0_hasEdit_16 ?_
      exact r_zretO hx hb hr hlocks ((bI_f (by omega)).symm) (Or.inl rfl) dX0_hasEdit_17
    · skip
      refine r_iconst hx hb dX0_hasEdit_12 ?_
      refine lv_goto (tgt := 17) hx hb dX0_hasEdit_13 (by decide) ?_
      exact r_zretO hx hb hr hlocks ((bI_t (by omega)).symm) (Or.inr rfl) dX0_hasEdit_17
