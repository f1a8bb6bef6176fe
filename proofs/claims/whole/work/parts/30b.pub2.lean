theorem kX4_count_28 : Cond.fieldLink RX4 28 "PricedUndo" "buffer" "LPricedUndo$Buffer;" ∈ wsX4_count := by decide +kernel
theorem nX4_count_X4 : ∀ w ∈ u_ws RX4 TX4 7, w ∈ wsX4_count := by decide +kernel
theorem nX4_count_X0 : ∀ w ∈ u_ws RX0 TX0 11, w ∈ wsX4_count := by decide +kernel
set_option maxHeartbeats 4000000 in
set_option maxRecDepth 100000 in
theorem p_count_0 (l : Launch) (D : va_G) (cI cB cZ cO : ClassId) (xp : Nat) (xc : Nat) (xs : Nat) (xq : Nat) (xl : Nat) (ag : Nat) (di : Nat) (h : Nat) (a1 : Nat) (a2 : Nat) (a3 : Nat) (a4 : Nat) (a5 : Nat) (tt : Nat) (ln : Nat) (ed : Nat) (es : Nat) (ac : Nat) (cu : Nat)  : Met l yX4_count wsX4_count ({ frames := 0, cells := 0, slots := 0, locals := 0 }) (va_Pc [.ref xp, .int (iI 0)] (RO D cI cB cZ cO [(xp, .inr (4, [.ref xc, .ref xs, .ref h, .ref xq, .ref xl, .int (iI ((ag : Nat) : Int)), .int (iI ((di : Nat) : Int))])), (h, .inr (0, [.ref a1, .ref a2, .ref a3, .int (iI ((tt : Nat) : Int)), .ref a4, .int (iI ((ln : Nat) : Int)), .ref a5, .int (iI ((ed : Nat) : Int)), .int (iI ((es : Nat) : Int)), .int (iI ((ac : Nat) : Int)), .int (iI ((cu : Nat) : Int))]))])) (QO ((ln : Nat) : Int)) 0 0 (fun _ => False) := by
  refine startO (cc := cX4_count) (maxL := 2) (ret := (some .int)) (by decide) rfl (Nat.le_of_ble_eq_true rfl) ?_
  intro p e s m below meth c S hr hlocks hE hP ls hl
  have hx := S.1
  have hb := S.2.1
  have hown := S.2.2.2.1
  have hts := S.2.2.2.2
  have hK := hE.1
  have hl : lv_has ls 2 [(0, .ref xp), (1, .int (iI 0))] := hl
  refine lv_iload_n hx hb dX4_count_0 rfl (lv_at hl 1 rfl) ?_
  refine lv_tableIn (off := 43) (tgt := 44) hx hb dX4_count_1 (by rw [iI_toInt ⟨by decide, by decide⟩]; decide) (by rw [iI_toInt ⟨by decide, by decide⟩]; decide) (by rw [iI_toInt ⟨by decide, by decide⟩]; rfl) (by decide) ?_
  refine lv_aload_n hx hb dX4_count_44 rfl (lv_at hl 0 rfl) ?_
  refine va_get (D := D) (ci := 4) (v := .ref h) (C := RX4) (T := TX4) (N := 7) hx hb hts nX4_count_X4 hown hK hP 0 rfl rfl 2 (by decide) (hts _ kX4_count_28) (fun _ h9 => h9) rfl dX4_count_45 ?_
  refine va_getN (D := D) (ci := 0) (v := .int (iI ((ln : Nat) : Int))) (C := RX0) (T := TX0) (N := 11) hx hb hts nX4_count_X0 hown hK hP 1 rfl rfl 5 (by decide) (va_Nw.use rfl (hE.2.f 14 rfl)) (fun _ h9 => h9) rfl dX4_count_48 ?_
  exact r_iretO hx hb hr hlocks (rfl) dX4_count_51

set_option maxHeartbeats 4000000 in
set_option maxRecDepth 100000 in
theorem p_count_1 (l : Launch) (D : va_G) (cI cB cZ cO : ClassId) (xp : Nat) (xc : Nat) (xs : Nat) (xq : Nat) (xl : Nat) (ag : Nat) (di : Nat) (h : Nat) (a1 : Nat) (a2 : Nat) (a3 : Nat) (a4 : Nat) (a5 : Nat) (tt : Nat) (ln : Nat) (ed : Nat) (es : Nat) (ac : Nat) (cu : Nat)  : Met l yX4_count wsX4_count ({ frames := 0, cells := 0, slots := 0, locals := 0 }) (va_Pc [.ref xp, .int (iI 1)] (RO D cI cB cZ cO [(xp, .inr (4, [.ref xc, .ref xs, .ref h, .ref xq, .ref xl, .int (iI ((ag : Nat) : Int)), .int (iI ((di : Nat) : Int))])), (h, .inr (0, [.ref a1, .ref a2, .ref a3, .int (iI ((tt : Nat) : Int)), .ref a4, .int (iI ((ln : Nat) : Int)), .ref a5, .int (iI ((ed : Nat) : Int)), .int (iI ((es : Nat) : Int)), .int (iI ((ac : Nat) : Int)), .int (iI ((cu : Nat) : Int))]))])) (QO ((tt : Nat) : Int)) 0 0 (fun _ => False) := by
  refine startO (cc := cX4_count) (maxL := 2) (ret := (some .int)) (by decide) rfl (Nat.le_of_ble_eq_true rfl) ?_
  intro p e s m below meth c S hr hlocks hE hP ls hl
  have hx := S.1
  have hb := S.2.1
  have hown := S.2.2.2.1
  have hts := S.2.2.2.2
  have hK := hE.1
  have hl : lv_has ls 2 [(0, .ref xp), (1, .int (iI 1))] := hl
  refine lv_iload_n hx hb dX4_count_0 rfl (lv_at hl 1 rfl) ?_
  refine lv_tableIn (off := 51) (tgt := 52) hx hb dX4_count_1 (by rw [iI_toInt ⟨by decide, by decide⟩]; decide) (by rw [iI_toInt ⟨by decide, by decide⟩]; decide) (by rw [iI_toInt ⟨by decide, by decide⟩]; rfl) (by decide) ?_
  refine lv_aload_n hx hb dX4_count_52 rfl (lv_at hl 0 rfl) ?_
  refine va_get (D := D) (ci := 4) (v := .ref h) (C := RX4) (T := TX4) (N := 7) hx hb hts nX4_count_X4 hown hK hP 0 rfl rfl 2 (by decide) (hts _ kX4_count_28) (fun _ h9 => h9) rfl dX4_count_53 ?_
  refine va_getN (D := D) (ci := 0) (v := .int (iI ((tt : Nat) : Int))) (C := RX0) (T := TX0) (N := 11) hx hb hts nX4_count_X0 hown hK hP 1 rfl rfl 3 (by decide) (va_Nw.use rfl (hE.2.f 13 rfl)) (fun _ h9 => h9) rfl dX4_count_56 ?_
  exact r_iretO hx hb hr hlocks (rfl) dX4_count_59

set_option maxHeartbeats 4000000 in
set_option maxRecDepth 100000 in
theorem p_count_2 (l : Launch) (D : va_G) (cI cB cZ cO : ClassId) (xp : Nat) (xc : Nat) (xs : Nat) (xq : Nat) (xl : Nat) (ag : Nat) (di : Nat) (h : Nat) (a1 : Nat) (a2 : Nat) (a3 : Nat) (a4 : Nat) (a5 : Nat) (tt : Nat) (ln : Nat) (ed : Nat) (es : Nat) (ac : Nat) (cu : Nat)  : Met l yX4_count wsX4_count ({ frames := 0, cells := 0, slots := 0, locals := 0 }) (va_Pc [.ref xp, .int (iI 2)] (RO D cI cB cZ cO [(xp, .inr (4, [.ref xc, .ref xs, .ref h, .ref xq, .ref xl, .int (iI ((ag : Nat) : Int)), .int (iI ((di : Nat) : Int))])), (h, .inr (0, [.ref a1, .ref a2, .ref a3, .int (iI ((tt : Nat) : Int)), .ref a4, .int (iI ((ln : Nat) : Int)), .ref a5, .int (iI ((ed : Nat) : Int)), .int (iI ((es : Nat) : Int)), .int (iI ((ac : Nat) : Int)), .int (iI ((cu : Nat) : Int))]))])) (QO ((ed : Nat) : Int)) 0 0 (fun _ => False) := by
  refine startO (cc := cX4_count) (maxL := 2) (ret := (some .int)) (by decide) rfl (Nat.le_of_ble_eq_true rfl) ?_
  intro p e s m below meth c S hr hlocks hE hP ls hl
  have hx := S.1
  have hb := S.2.1
  have hown := S.2.2.2.1
  have hts := S.2.2.2.2
  have hK := hE.1
  have hl : lv_has ls 2 [(0, .ref xp), (1, .int (iI 2))] := hl
  refine lv_iload_n hx hb dX4_count_0 rfl (lv_at hl 1 rfl) ?_
  refine lv_tableIn (off := 59) (tgt := 60) hx hb dX4_count_1 (by rw [iI_toInt ⟨by decide, by decide⟩]; decide) (by rw [iI_toInt ⟨by decide, by decide⟩]; decide) (by rw [iI_toInt ⟨by decide, by decide⟩]; rfl) (by decide) ?_
  refine lv_aload_n hx hb dX4_count_60 rfl (lv_at hl 0 rfl) ?_
  refine va_get (D := D) (ci := 4) (v := .ref h) (C := RX4) (T := TX4) (N := 7) hx hb hts nX4_count_X4 hown hK hP 0 rfl rfl 2 (by decide) (hts _ kX4_count_28) (fun _ h9 => h9) rfl dX4_count_61 ?_
  refine va_getN (D := D) (ci := 0) (v := .int (iI ((ed : Nat) : Int))) (C := RX0) (T := TX0) (N := 11) hx hb hts nX4_count_X0 hown hK hP 1 rfl rfl 7 (by decide) (va_Nw.use rfl (hE.2.f 16 rfl)) (fun _ h9 => h9) rfl dX4_count_64 ?_
  exact r_iretO hx hb hr hlocks (rfl) dX4_count_67

set_option maxHeartbeats 4000000 in
set_option maxRecDepth 100000 in
theorem p_count_3 (l : Launch) (D : va_G) (cI cB cZ cO : ClassId) (xp : Nat) (xc : Nat) (xs : Nat) (xq : Nat) (xl : Nat) (ag : Nat) (di : Nat) (h : Nat) (a1 : Nat) (a2 : Nat) (a3 : Nat) (a4 : Nat) (a5 : Nat) (tt : Nat) (ln : Nat) (ed : Nat) (es : Nat) (ac : Nat) (cu : Nat) (hac : ac < 65536) : Met l yX4_count wsX4_count ({ frames := 1, cells := 0, slots := 0, locals := 20 }) (va_Pc [.ref xp, .int (iI 3)] (RO D cI cB cZ cO [(xp, .inr (4, [.ref xc, .ref xs, .ref h, .ref xq, .ref xl, .int (iI ((ag : Nat) : Int)), .int (iI ((di : Nat) : Int))])), (h, .inr (0, [.ref a1, .ref a2, .ref a3, .int (iI ((tt : Nat) : Int)), .ref a4, .int (iI ((ln : Nat) : Int)), .ref a5, .int (iI ((ed : Nat) : Int)), .int (iI ((es : Nat) : Int)), .int (iI ((ac : Nat) : Int)), .int (iI ((cu : Nat) : Int))]))])) (QO ((popc ac : Nat) : Int)) 0 0 (fun _ => False) := by
  refine startO (cc := cX4_count) (maxL := 2) (ret := (some .int)) (by decide) rfl (Nat.le_of_ble_eq_true rfl) ?_
  intro p e s m below meth c S hr hlocks hE hP ls hl
  have hx := S.1
  have hb := S.2.1
  have hown := S.2.2.2.1
  have hts := S.2.2.2.2
  have hK := hE.1
  have hl : lv_has ls 2 [(0, .ref xp), (1, .int (iI 3))] := hl
  refine lv_iload_n hx hb dX4_count_0 rfl (lv_at hl 1 rfl) ?_
  refine lv_tableIn (off := 67) (tgt := 68) hx hb dX4_count_1 (by rw [iI_toInt ⟨by decide, by decide⟩]; decide) (by rw [iI_toInt ⟨by decide, by decide⟩]; decide) (by rw [iI_toInt ⟨by decide, by decide⟩]; rfl) (by decide) ?_
  refine lv_aload_n hx hb dX4_count_68 rfl (lv_at hl 0 rfl) ?_
  refine va_get (D := D) (ci := 4) (v := .ref h) (C := RX4) (T := TX4) (N := 7) hx hb hts nX4_count_X4 hown hK hP 0 rfl rfl 2 (by decide) (hts _ kX4_count_28) (fun _ h9 => h9) rfl dX4_count_69 ?_
  refine va_getN (D := D) (ci := 0) (v := .int (iI ((ac : Nat) : Int))) (C := RX0) (T := TX0) (N := 11) hx hb hts nX4_count_X0 hown hK hP 1 rfl rfl 9 (by decide) (va_Nw.use rfl (hE.2.f 19 rfl)) (fun _ h9 => h9) rfl dX4_count_72 ?_
  refine callFO (n := 1) (As := [.int (iI ((ac : Nat) : Int))]) (rest := []) (wc := []) S (c_bitCount l D cI cB cZ cO ac (by first | assumption | (omega))) gX4_count_J6_bitCount_0f7a4 rfl ⟨rfl, rfl⟩ (by decide +kernel) ⟨Nat.le_of_ble_eq_true rfl, Nat.le_of_ble_eq_true rfl⟩ hE hP [] rfl rfl hl.1 rfl (Nat.le_of_ble_eq_true rfl) dX4_count_75 ⟨Nat.le_of_ble_eq_true rfl, Nat.le_of_ble_eq_true rfl⟩ ?_
  exact r_iretO hx hb hr hlocks (rfl) dX4_count_78

set_option maxHeartbeats 4000000 in
set_option maxRecDepth 100000 in
theorem p_count_4 (l : Launch) (D : va_G) (cI cB cZ cO : ClassId) (xp : Nat) (xc : Nat) (xs : Nat) (xq : Nat) (xl : Nat) (ag : Nat) (di : Nat) (h : Nat) (a1 : Nat) (a2 : Nat) (a3 : Nat) (a4 : Nat) (a5 : Nat) (tt : Nat) (ln : Nat) (ed : Nat) (es : Nat) (ac : Nat) (cu : Nat)  : Met l yX4_count wsX4_count ({ frames := 0, cells := 0, slots := 0, locals := 0 }) (va_Pc [.ref xp, .int (iI 4)] (RO D cI cB cZ cO [(xp, .inr (4, [.ref xc, .ref xs, .ref h, .ref xq, .ref xl, .int (iI ((ag : Nat) : Int)), .int (iI ((di : Nat) : Int))])), (h, .inr (0, [.ref a1, .ref a2, .ref a3, .int (iI ((tt : Nat) : Int)), .ref a4, .int (iI ((ln : Nat) : Int)), .ref a5, .int (iI ((ed : Nat) : Int)), .int (iI ((es : Nat) : Int)), .int (iI ((ac : Nat) : Int)), .int (iI ((cu : Nat) : Int))]))])) (QO ((cu : Nat) : Int)) 0 0 (fun _ => False) := by
  refine startO (cc := cX4_count) (maxL := 2) (ret := (some .int)) (by decide) rfl (Nat.le_of_ble_eq_true rfl) ?_
  intro p e s m below meth c S hr hlocks hE hP ls hl
  have hx := S.1
  have hb := S.2.1
  have hown := S.2.2.2.1
  have hts := S.2.2.2.2
  have hK := hE.1
  have hl : lv_has ls 2 [(0, .ref xp), (1, .int (iI 4))] := hl
  refine lv_iload_n hx hb dX4_count_0 rfl (lv_at hl 1 rfl) ?_
  refine lv_tableIn (off := 78) (tgt := 79) hx hb dX4_count_1 (by rw [iI_toInt ⟨by decide, by decide⟩]; decide) (by rw [iI_toInt ⟨by decide, by decide⟩]; decide) (by rw [iI_toInt ⟨by decide, by decide⟩]; rfl) (by decide) ?_
  refine lv_aload_n hx hb dX4_count_79 rfl (lv_at hl 0 rfl) ?_
  refine va_get (D := D) (ci := 4) (v := .ref h) (C := RX4) (T := TX4) (N := 7) hx hb hts nX4_count_X4 hown hK hP 0 rfl rfl 2 (by decide) (hts _ kX4_count_28) (fun _ h9 => h9) rfl dX4_count_80 ?_
  refine va_getN (D := D) (ci := 0) (v := .int (iI ((cu : Nat) : Int))) (C := RX0) (T := TX0) (N := 11) hx hb hts nX4_count_X0 hown hK hP 1 rfl rfl 10 (by decide) (va_Nw.use rfl (hE.2.f 20 rfl)) (fun _ h9 => h9) rfl dX4_count_83 ?_
  exact r_iretO hx hb hr hlocks (rfl) dX4_count_86

theorem kX4_count_14 : Cond.fieldLink RX4 14 "PricedUndo" "clip" "LPricedUndo$Row;" ∈ wsX4_count := by decide +kernel
theorem nX4_count_X1 : ∀ w ∈ u_ws RX1 TX1 2, w ∈ wsX4_count := by decide +kernel
set_option maxHeartbeats 4000000 in
set_option maxRecDepth 100000 in
theorem p_count_5 (l : Launch) (D : va_G) (cI cB cZ cO : ClassId) (xp : Nat) (xc : Nat) (xs : Nat) (xq : Nat) (xl : Nat) (ag : Nat) (di : Nat) (h : Nat) (a1 : Nat) (a2 : Nat) (a3 : Nat) (a4 : Nat) (a5 : Nat) (tt : Nat) (ln : Nat) (ed : Nat) (es : Nat) (ac : Nat) (cu : Nat) (xca : Nat) (cln : Nat) (clc : Nat → Nat)  : Met l yX4_count wsX4_count ({ frames := 0, cells := 0, slots := 0, locals := 0 }) (va_Pc [.ref xp, .int (iI 5)] (RO D cI cB cZ cO [(xp, .inr (4, [.ref xc, .ref xs, .ref h, .ref xq, .ref xl, .int (iI ((ag : Nat) : Int)), .int (iI ((di : Nat) : Int))])), (h, .inr (0, [.ref a1, .ref a2, .ref a3, .int (iI ((tt : Nat) : Int)), .ref a4, .int (iI ((ln : Nat) : Int)), .ref a5, .int (iI ((ed : Nat) : Int)), .int (iI ((es : Nat) : Int)), .int (iI ((ac : Nat) : Int)), .int (iI ((cu : Nat) : Int))])), (xc, .inr (1, [.ref xca, .int (iI ((cln : Nat) : Int))])), (xca, .inl (cI, 60, .inl (rN (clc))))])) (QO ((cln : Nat) : Int)) 0 0 (fun _ => False) := by
  refine startO (cc := cX4_count) (maxL := 2) (ret := (some .int)) (by decide) rfl (Nat.le_of_ble_eq_true rfl) ?_
  intro p e s m below meth c S hr hlocks hE hP ls hl
  have hx := S.1
  have hb := S.2.1
  have hown := S.2.2.2.1
  have hts := S.2.2.2.2
  have hK := hE.1
  have hl : lv_has ls 2 [(0, .ref xp), (1, .int (iI 5))] := hl
  refine lv_iload_n hx hb dX4_count_0 rfl (lv_at hl 1 rfl) ?_
  refine lv_tableIn (off := 86) (tgt := 87) hx hb dX4_count_1 (by rw [iI_toInt ⟨by decide, by decide⟩]; decide) (by rw [iI_toInt ⟨by decide, by decide⟩]; decide) (by rw [iI_toInt ⟨by decide, by decide⟩]; rfl) (by decide) ?_
  refine lv_aload_n hx hb dX4_count_87 rfl (lv_at hl 0 rfl) ?_
  refine va_get (D := D) (ci := 4) (v := .ref xc) (C := RX4) (T := TX4) (N := 7) hx hb hts nX4_count_X4 hown hK hP 0 rfl rfl 0 (by decide) (hts _ kX4_count_14) (fun _ h9 => h9) rfl dX4_count_88 ?_
  refine va_getN (D := D) (ci := 1) (v := .int (iI ((cln : Nat) : Int))) (C := RX1) (T := TX1) (N := 2) hx hb hts nX4_count_X1 hown hK hP 2 rfl rfl 1 (by decide) (va_Nw.use rfl (hE.2.f 1 rfl)) (fun _ h9 => h9) rfl dX4_count_91 ?_
  exact r_iretO hx hb hr hlocks (rfl) dX4_count_94

set_option maxHeartbeats 4000000 in
set_option maxRecDepth 100000 in
theorem p_count_6 (l : Launch) (D : va_G) (cI cB cZ cO : ClassId) (xp : Nat) (xc : Nat) (xs : Nat) (xq : Nat) (xl : Nat) (ag : Nat) (di : Nat) (h : Nat) (a1 : Nat) (a2 : Nat) (a3 : Nat) (a4 : Nat) (a5 : Nat) (tt : Nat) (ln : Nat) (ed : Nat) (es : Nat) (ac : Nat) (cu : Nat) (ba : Nat → Nat) (hed : ed ≤ 16) (hba : ∀ k, ba k < 65536) : Met l yX4_count wsX4_count ({ frames := 4, cells := 0, slots := 0, locals := 87 }) (va_Pc [.ref xp, .int (iI 6)] (RO D cI cB cZ cO [(xp, .inr (4, [.ref xc, .ref xs, .ref h, .ref xq, .ref xl, .int (iI ((ag : Nat) : Int)), .int (iI ((di : Nat) : Int))])), (h, .inr (0, [.ref a1, .ref a2, .ref a3, .int (iI ((tt : Nat) : Int)), .ref a4, .int (iI ((ln : Nat) : Int)), .ref a5, .int (iI ((ed : Nat) : Int)), .int (iI ((es : Nat) : Int)), .int (iI ((ac : Nat) : Int)), .int (iI ((cu : Nat) : Int))])), (a5, .inl (cI, 16, .inl (rN (ba))))])) (QO ((cpF ba ed : Nat) : Int)) 0 0 (fun _ => False) := by
  refine startO (cc := cX4_count) (maxL := 2) (ret := (some .int)) (by decide) rfl (Nat.le_of_ble_eq_true rfl) ?_
  intro p e s m below meth c S hr hlocks hE hP ls hl
  have hx := S.1
  have hb := S.2.1
  have hown := S.2.2.2.1
  have hts := S.2.2.2.2
  have hK := hE.1
  have hl : lv_has ls 2 [(0, .ref xp), (1, .int (iI 6))] := hl
  refine lv_iload_n hx hb dX4_count_0 rfl (lv_at hl 1 rfl) ?_
  refine lv_tableIn (off := 94) (tgt := 95) hx hb dX4_count_1 (by rw [iI_toInt ⟨by decide, by decide⟩]; decide) (by rw [iI_toInt ⟨by decide, by decide⟩]; decide) (by rw [iI_toInt ⟨by decide, by decide⟩]; rfl) (by decide) ?_
  refine lv_aload_n hx hb dX4_count_95 rfl (lv_at hl 0 rfl) ?_
  refine va_get (D := D) (ci := 4) (v := .ref h) (C := RX4) (T := TX4) (N := 7) hx hb hts nX4_count_X4 hown hK hP 0 rfl rfl 2 (by decide) (hts _ kX4_count_28) (fun _ h9 => h9) rfl dX4_count_96 ?_
  refine callVO (n := 0) (As := []) (rest := []) (wc := [(h, .inr (0, [.ref a1, .ref a2, .ref a3, .int (iI ((tt : Nat) : Int)), .ref a4, .int (iI ((ln : Nat) : Int)), .ref a5, .int (iI ((ed : Nat) : Int)), .int (iI ((es : Nat) : Int)), .int (iI ((ac : Nat) : Int)), .int (iI ((cu : Nat) : Int))])), (a5, .inl (cI, 16, .inl (rN (ba))))]) S (c_commutingPairs l D cI cB cZ cO h a1 a2 a3 a4 a5 tt ln ed es ac cu ba (by first | assumption | (omega)) (by first | assumption | (omega))) gX4_count_X0_commutingPairs rfl ⟨rfl, rfl⟩ (by decide +kernel) ⟨Nat.le_of_ble_eq_true rfl, Nat.le_of_ble_eq_true rfl⟩ hE hP [1, 2] rfl 0 0 rfl rfl rfl hl.1 rfl (Nat.le_of_ble_eq_true rfl) dX4_count_99 ⟨Nat.le_of_ble_eq_true rfl, Nat.le_of_ble_eq_true rfl⟩ ?_
  exact r_iretO hx hb hr hlocks (rfl) dX4_count_102

set_option maxHeartbeats 4000000 in
set_option maxRecDepth 100000 in
theorem p_count_bad (l : Launch) (D : va_G) (cI cB cZ cO : ClassId) (xp : Nat) (xc : Nat) (xs : Nat) (xq : Nat) (xl : Nat) (ag : Nat) (di : Nat) (h : Nat) (a1 : Nat) (a2 : Nat) (a3 : Nat) (a4 : Nat) (a5 : Nat) (tt : Nat) (ln : Nat) (ed : Nat) (es : Nat) (ac : Nat) (cu : Nat) (x : Int) (rx : rg x) (hbad : x < 0 ∨ 6 < x) : Met l yX4_count wsX4_count ({ frames := 0, cells := 0, slots := 0, locals := 0 }) (va_Pc [.ref xp, .int (iI (x))] (RO D cI cB cZ cO [(xp, .inr (4, [.ref xc, .ref xs, .ref h, .ref xq, .ref xl, .int (iI ((ag : Nat) : Int)), .int (iI ((di : Nat) : Int))])), (h, .inr (0, [.ref a1, .ref a2, .ref a3, .int (iI ((tt : Nat) : Int)), .ref a4, .int (iI ((ln : Nat) : Int)), .ref a5, .int (iI ((ed : Nat) : Int)), .int (iI ((es : Nat) : Int)), .int (iI ((ac : Nat) : Int)), .int (iI ((cu : Nat) : Int))]))])) (QO (-1)) 0 0 (fun _ => False) := by
  refine startO (cc := cX4_count) (maxL := 2) (ret := (some .int)) (by decide) rfl (Nat.le_of_ble_eq_true rfl) ?_
  intro p e s m below meth c S hr hlocks hE hP ls hl
  have hx := S.1
  have hb := S.2.1
  have hown := S.2.2.2.1
  have hts := S.2.2.2.2
  have hK := hE.1
  have hl : lv_has ls 2 [(0, .ref xp), (1, .int (iI (x)))] := hl
  refine lv_iload_n hx hb dX4_count_0 rfl (lv_at hl 1 rfl) ?_
  rcases (show (x) = 0 ∨ (x) = 1 ∨ (x) = 2 ∨ (x) = 3 ∨ (x) = 4 ∨ (x) = 5 ∨ (x) = 6 ∨ ((x) < 0 ∨ 6 < (x)) by omega) with c_1 | c_1 | c_1 | c_1 | c_1 | c_1 | c_1 | c_1
  · skip
    refine lv_tableIn (off := 43) (tgt := 44) hx hb dX4_count_1 (by rw [iI_toInt (by omega), c_1]; decide) (by rw [iI_toInt (by omega), c_1]; decide) (by rw [iI_toInt (by omega), c_1]; rfl) (by decide) ?_
    exfalso; omega
  · skip
    refine lv_tableIn (off := 51) (tgt := 52) hx hb dX4_count_1 (by rw [iI_toInt (by omega), c_1]; decide) (by rw [iI_toInt (by omega), c_1]; decide) (by rw [iI_toInt (by omega), c_1]; rfl) (by decide) ?_
    exfalso; omega
  · skip
    refine lv_tableIn (off := 59) (tgt := 60) hx hb dX4_count_1 (by rw [iI_toInt (by omega), c_1]; decide) (by rw [iI_toInt (by omega), c_1]; decide) (by rw [iI_toInt (by omega), c_1]; rfl) (by decide) ?_
    exfalso; omega
  · skip
    refine lv_tableIn (off := 67) (tgt := 68) hx hb dX4_count_1 (by rw [iI_toInt (by omega), c_1]; decide) (by rw [iI_toInt (by omega), c_1]; decide) (by rw [iI_toInt (by omega), c_1]; rfl) (by decide) ?_
    exfalso; omega
  · skip
    refine lv_tableIn (off := 78) (tgt := 79) hx hb dX4_count_1 (by rw [iI_toInt (by omega), c_1]; decide) (by rw [iI_toInt (by omega), c_1]; decide) (by rw [iI_toInt (by omega), c_1]; rfl) (by decide) ?_
    exfalso; omega
  · skip
    refine lv_tableIn (off := 86) (tgt := 87) hx hb dX4_count_1 (by rw [iI_toInt (by omega), c_1]; decide) (by rw [iI_toInt (by omega), c_1]; decide) (by rw [iI_toInt (by omega), c_1]; rfl) (by decide) ?_
    exfalso; omega
  · skip
    refine lv_tableIn (off := 94) (tgt := 95) hx hb dX4_count_1 (by rw [iI_toInt (by omega), c_1]; decide) (by rw [iI_toInt (by omega), c_1]; decide) (by rw [iI_toInt (by omega), c_1]; rfl) (by decide) ?_
    exfalso; omega
  · skip
    refine lv_tableOut (tgt := 103) hx hb dX4_count_1 (by rw [iI_toInt (by omega)]; exact c_1) (by decide) ?_
    refine r_iconst hx hb dX4_count_103 ?_
    exact r_iretO hx hb hr hlocks (rfl) dX4_count_104

theorem kX4_edit_28 : Cond.fieldLink RX4 28 "PricedUndo" "buffer" "LPricedUndo$Buffer;" ∈ wsX4_edit := by decide +kernel
theorem nX4_edit_X4 : ∀ w ∈ u_ws RX4 TX4 7, w ∈ wsX4_edit := by decide +kernel
set_option maxHeartbeats 4000000 in
set_option maxRecDepth 100000 in
theorem p_edit_bad (l : Launch) (D : va_G) (cI cB cZ cO : ClassId) (xp : Nat) (xc : Nat) (xs : Nat) (xq : Nat) (xl : Nat) (ag : Nat) (di : Nat) (h : Nat) (a1 : Nat) (a2 : Nat) (a3 : Nat) (a4 : Nat) (a5 : Nat) (tt : Nat) (ln : Nat) (ed : Nat) (es : Nat) (ac : Nat) (cu : Nat) (x : Int) (y : Int) (hed : ed ≤ 16) (rx : rg x) (ry : rg y) (hbad : ¬ (0 ≤ x ∧ x < (ed : Int) ∧ 0 ≤ y ∧ y ≤ 6)) : Met l yX4_edit wsX4_edit ({ frames := 1, cells := 0, slots := 0, locals := 21 }) (va_Pc [.ref xp, .int (iI (x)), .int (iI (y))] (RO D cI cB cZ cO [(xp, .inr (4, [.ref xc, .ref xs, .ref h, .ref xq, .ref xl, .int (iI ((ag : Nat) : Int)), .int (iI ((di : Nat) : Int))])), (h, .inr (0, [.ref a1, .ref a2, .ref a3, .int (iI ((tt : Nat) : Int)), .ref a4, .int (iI ((ln : Nat) : Int)), .ref a5, .int (iI ((ed : Nat) : Int)), .int (iI ((es : Nat) : Int)), .int (iI ((ac : Nat) : Int)), .int (iI ((cu : Nat) : Int))]))])) (QO (-1)) 0 0 (fun _ => False) := by
  refine startO (cc := cX4_edit) (maxL := 3) (ret := (some .int)) (by decide) rfl (Nat.le_of_ble_eq_true rfl) ?_
  intro p e s m below meth c S hr hlocks hE hP ls hl
  have hx := S.1
  have hb := S.2.1
  have hown := S.2.2.2.1
  have hts := S.2.2.2.2
  have hK := hE.1
  have hl : lv_has ls 3 [(0, .ref xp), (1, .int (iI (x))), (2, .int (iI (y)))] := hl
  refine lv_aload_n hx hb dX4_edit_0 rfl (lv_at hl 0 rfl) ?_
  refine va_get (D := D) (ci := 4) (v := .ref h) (C := RX4) (T := TX4) (N := 7) hx hb hts nX4_edit_X4 hown hK hP 0 rfl rfl 2 (by decide) (hts _ kX4_edit_28) (fun _ h9 => h9) rfl dX4_edit_1 ?_
  refine lv_iload_n hx hb dX4_edit_4 rfl (lv_at hl 1 rfl) ?_
  refine callVO (n := 1) (As := [.int (iI (x))]) (rest := []) (wc := [(h, .inr (0, [.ref a1, .ref a2, .ref a3, .int (iI ((tt : Nat) : Int)), .ref a4, .int (iI ((ln : Nat) : Int)), .ref a5, .int (iI ((ed : Nat) : Int)), .int (iI ((es : Nat) : Int)), .int (iI ((ac : Nat) : Int)), .int (iI ((cu : Nat) : Int))]))]) S (c_hasEdit l D cI cB cZ cO h a1 a2 a3 a4 a5 tt ln ed es ac cu x (by first | assumption | (omega)) (by first | assumption | (omega))) gX4_edit_X0_hasEdit rfl ⟨rfl, rfl⟩ (by decide +kernel) ⟨Nat.le_of_ble_eq_true rfl, Nat.le_of_ble_eq_true rfl⟩ hE hP [1] rfl 0 0 rfl rfl rfl hl.1 rfl (Nat.le_of_ble_eq_true rfl) dX4_edit_5 ⟨Nat.le_of_ble_eq_true rfl, Nat.le_of_ble_eq_true rfl⟩ ?_
  refine r_ifb_ne (tgt := 13) hx hb dX4_edit_8 (by decide) (fun c_1 => ?_) (fun c_1 => ?_)
  · skip
    refine lv_iload_n hx hb dX4_edit_13 rfl (lv_at hl 2 rfl) ?_
    rcases (show (y) = 0 ∨ (y) = 1 ∨ (y) = 2 ∨ (y) = 3 ∨ (y) = 4 ∨ (y) = 5 ∨ (y) = 6 ∨ ((y) < 0 ∨ 6 < (y)) by omega) with c_2 | c_2 | c_2 | c_2 | c_2 | c_2 | c_2 | c_2
    · skip
      refine lv_tableIn (off := 42) (tgt := 56) hx hb dX4_edit_14 (by rw [iI_toInt (by omega), c_2]; decide) (by rw [iI_toInt (by omega), c_2]; decide) (by rw [iI_toInt (by omega), c_2]; rfl) (by decide) ?_
      exfalso; omega
    · skip
      refine lv_tableIn (off := 62) (tgt := 76) hx hb dX4_edit_14 (by rw [iI_toInt (by omega), c_2]; decide) (by rw [iI_toInt (by omega), c_2]; decide) (by rw [iI_toInt (by omega), c_2]; rfl) (by decide) ?_
      exfalso; omega
    · skip
      refine lv_tableIn (off := 82) (tgt := 96) hx hb dX4_edit_14 (by rw [iI_toInt (by omega), c_2]; decide) (by rw [iI_toInt (by omega), c_2]; decide) (by rw [iI_toInt (by omega), c_2]; rfl) (by decide) ?_
      exfalso; omega
    · skip
      refine lv_tableIn (off := 91) (tgt := 105) hx hb dX4_edit_14 (by rw [iI_toInt (by omega), c_2]; decide) (by rw [iI_toInt (by omega), c_2]; decide) (by rw [iI_toInt (by omega), c_2]; rfl) (by decide) ?_
      exfalso; omega
    · skip
      refine lv_tableIn (off := 100) (tgt := 114) hx hb dX4_edit_14 (by rw [iI_toInt (by omega), c_2]; decide) (by rw [iI_toInt (by omega), c_2]; decide) (by rw [iI_toInt (by omega), c_2]; rfl) (by decide) ?_
      exfalso; omega
    · skip
      refine lv_tableIn (off := 136) (tgt := 150) hx hb dX4_edit_14 (by rw [iI_toInt (by omega), c_2]; decide) (by rw [iI_toInt (by omega), c_2]; decide) (by rw [iI_toInt (by omega), c_2]; rfl) (by decide) ?_
      exfalso; omega
    · skip
      refine lv_tableIn (off := 145) (tgt := 159) hx hb dX4_edit_14 (by rw [iI_toInt (by omega), c_2]; decide) (by rw [iI_toInt (by omega), c_2]; decide) (by rw [iI_toInt (by omega), c_2]; rfl) (by decide) ?_
      exfalso; omega
    · skip
      refine lv_tableOut (tgt := 171) hx hb dX4_edit_14 (by rw [iI_toInt (by omega)]; exact c_2) (by decide) ?_
      refine r_iconst hx hb dX4_edit_171 ?_
      exact r_iretO hx hb hr hlocks (rfl) dX4_edit_172
  · skip
    refine r_iconst hx hb dX4_edit_11 ?_
    exact r_iretO hx hb hr hlocks (rfl) dX4_edit_12

theorem nX4_edit_X0 : ∀ w ∈ u_ws RX0 TX0 11, w ∈ wsX4_edit := by decide +kernel
set_option maxHeartbeats 4000000 in
set_option maxRecDepth 100000 in
theorem p_edit_0 (l : Launch) (D : va_G) (cI cB cZ cO : ClassId) (xp : Nat) (xc : Nat) (xs : Nat) (xq : Nat) (xl : Nat) (ag : Nat) (di : Nat) (h : Nat) (a1 : Nat) (a2 : Nat) (a3 : Nat) (a4 : Nat) (a5 : Nat) (tt : Nat) (ln : Nat) (ed : Nat) (es : Nat) (ac : Nat) (cu : Nat) (e1 : Nat) (hed : ed ≤ 16) (he1 : e1 < ed) (hes : es < 65536) : Met l yX4_edit wsX4_edit ({ frames := 1, cells := 0, slots := 0, locals := 21 }) (va_Pc [.ref xp, .int (iI ((e1 : Nat) : Int)), .int (iI 0)] (RO D cI cB cZ cO [(xp, .inr (4, [.ref xc, .ref xs, .ref h, .ref xq, .ref xl, .int (iI ((ag : Nat) : Int)), .int (iI ((di : Nat) : Int))])), (h, .inr (0, [.ref a1, .ref a2, .ref a3, .int (iI ((tt : Nat) : Int)), .ref a4, .int (iI ((ln : Nat) : Int)), .ref a5, .int (iI ((ed : Nat) : Int)), .int (iI ((es : Nat) : Int)), .int (iI ((ac : Nat) : Int)), .int (iI ((cu : Nat) : Int))]))])) (QO (bI (es.testBit e1 = true))) 0 0 (fun _ => False) := by
  refine startO (cc := cX4_edit) (maxL := 3) (ret := (some .int)) (by decide) rfl (Nat.le_of_ble_eq_true rfl) ?_
  intro p e s m below meth c S hr hlocks hE hP ls hl
  have hx := S.1
  have hb := S.2.1
  have hown := S.2.2.2.1
  have hts := S.2.2.2.2
  have hK := hE.1
  have hl : lv_has ls 3 [(0, .ref xp), (1, .int (iI ((e1 : Nat) : Int))), (2, .int (iI 0))] := hl
  refine lv_aload_n hx hb dX4_edit_0 rfl (lv_at hl 0 rfl) ?_
  refine va_get (D := D) (ci := 4) (v := .ref h) (C := RX4) (T := TX4) (N := 7) hx hb hts nX4_edit_X4 hown hK hP 0 rfl rfl 2 (by decide) (hts _ kX4_edit_28) (fun _ h9 => h9) rfl dX4_edit_1 ?_
  refine lv_iload_n hx hb dX4_edit_4 rfl (lv_at hl 1 rfl) ?_
  refine callVO (n := 1) (As := [.int (iI ((e1 : Nat) : Int))]) (rest := []) (wc := [(h, .inr (0, [.ref a1, .ref a2, .ref a3, .int (iI ((tt : Nat) : Int)), .ref a4, .int (iI ((ln : Nat) : Int)), .ref a5, .int (iI ((ed : Nat) : Int)), .int (iI ((es : Nat) : Int)), .int (iI ((ac : Nat) : Int)), .int (iI ((cu : Nat) : Int))]))]) S (c_hasEdit l D cI cB cZ cO h a1 a2 a3 a4 a5 tt ln ed es ac cu (((e1 : Nat) : Int)) (by first | assumption | (first | omega | assumption)) (by first | assumption | (first | omega | assumption))) gX4_edit_X0_hasEdit rfl ⟨rfl, rfl⟩ (by decide +kernel) ⟨Nat.le_of_ble_eq_true rfl, Nat.le_of_ble_eq_true rfl⟩ hE hP [1] rfl 0 0 rfl rfl rfl hl.1 rfl (Nat.le_of_ble_eq_true rfl) dX4_edit_5 ⟨Nat.le_of_ble_eq_true rfl, Nat.le_of_ble_eq_true rfl⟩ ?_
  refine r_ifb_ne (tgt := 13) hx hb dX4_edit_8 (by decide) (fun c_1 => ?_) (fun c_1 => ?_)
  · skip
    refine lv_iload_n hx hb dX4_edit_13 rfl (lv_at hl 2 rfl) ?_
    refine lv_tableIn (off := 42) (tgt := 56) hx hb dX4_edit_14 (by rw [iI_toInt ⟨by decide, by decide⟩]; decide) (by rw [iI_toInt ⟨by decide, by decide⟩]; decide) (by rw [iI_toInt ⟨by decide, by decide⟩]; rfl) (by decide) ?_
    refine lv_aload_n hx hb dX4_edit_56 rfl (lv_at hl 0 rfl) ?_
    refine va_get (D := D) (ci := 4) (v := .ref h) (C := RX4) (T := TX4) (N := 7) hx hb hts nX4_edit_X4 hown hK hP 0 rfl rfl 2 (by decide) (hts _ kX4_edit_28) (fun _ h9 => h9) rfl dX4_edit_57 ?_
    refine va_getN (D := D) (ci := 0) (v := .int (iI ((es : Nat) : Int))) (C := RX0) (T := TX0) (N := 11) hx hb hts nX4_edit_X0 hown hK hP 1 rfl rfl 8 (by decide) (va_Nw.use rfl (hE.2.f 17 rfl)) (fun _ h9 => h9) rfl dX4_edit_60 ?_
    refine lv_iload_n hx hb dX4_edit_63 rfl (lv_at hl 1 rfl) ?_
    refine callSO (n := 2) (As := [.int (iI ((es : Nat) : Int)), .int (iI ((e1 : Nat) : Int))]) (rest := []) (wc := []) S (c_has l D cI cB cZ cO es e1 (by first | assumption | (first | omega | assumption)) (by first | assumption | (first | omega | assumption))) gX4_edit_X4_has rfl ⟨rfl, rfl⟩ (by decide +kernel) ⟨Nat.le_of_ble_eq_true rfl, Nat.le_of_ble_eq_true rfl⟩ hE hP [] rfl rfl hl.1 rfl (Nat.le_of_ble_eq_true rfl) dX4_edit_64 ⟨Nat.le_of_ble_eq_true rfl, Nat.le_of_ble_eq_true rfl⟩ ?_
    refine r_ifb_eq (tgt := 74) hx hb dX4_edit_67 (by decide) (fun c_3 => ?_) (fun c_3 => ?_)
    · skip
      refine r_iconst hx hb dX4_edit_74 ?_
      exact r_iretO hx hb hr hlocks ((bI_f (by first | omega | assumption)).symm) dX4_edit_75
    · skip
      refine r_iconst hx hb dX4_edit_70 ?_
      refine lv_goto (tgt := 75) hx hb dX4_edit_71 (by decide) ?_
      exact r_iretO hx hb hr hlocks ((bI_t (by first | omega | assumption)).symm) dX4_edit_75
  · skip
    exfalso; omega

set_option maxHeartbeats 4000000 in
set_option maxRecDepth 100000 in
theorem p_edit_1 (l : Launch) (D : va_G) (cI cB cZ cO : ClassId) (xp : Nat) (xc : Nat) (xs : Nat) (xq : Nat) (xl : Nat) (ag : Nat) (di : Nat) (h : Nat) (a1 : Nat) (a2 : Nat) (a3 : Nat) (a4 : Nat) (a5 : Nat) (tt : Nat) (ln : Nat) (ed : Nat) (es : Nat) (ac : Nat) (cu : Nat) (e1 : Nat) (hed : ed ≤ 16) (he1 : e1 < ed) (hac : ac < 65536) : Met l yX4_edit wsX4_edit ({ frames := 1, cells := 0, slots := 0, locals := 21 }) (va_Pc [.ref xp, .int (iI ((e1 : Nat) : Int)), .int (iI 1)] (RO D cI cB cZ cO [(xp, .inr (4, [.ref xc, .ref xs, .ref h, .ref xq, .ref xl, .int (iI ((ag : Nat) : Int)), .int (iI ((di : Nat) : Int))])), (h, .inr (0, [.ref a1, .ref a2, .ref a3, .int (iI ((tt : Nat) : Int)), .ref a4, .int (iI ((ln : Nat) : Int)), .ref a5, .int (iI ((ed : Nat) : Int)), .int (iI ((es : Nat) : Int)), .int (iI ((ac : Nat) : Int)), .int (iI ((cu : Nat) : Int))]))])) (QO (bI (ac.testBit e1 = true))) 0 0 (fun _ => False) := by
  refine startO (cc := cX4_edit) (maxL := 3) (ret := (some .int)) (by decide) rfl (Nat.le_of_ble_eq_true rfl) ?_
  intro p e s m below meth c S hr hlocks hE hP ls hl
  have hx := S.1
  have hb := S.2.1
  have hown := S.2.2.2.1
  have hts := S.2.2.2.2
  have hK := hE.1
  have hl : lv_has ls 3 [(0, .ref xp), (1, .int (iI ((e1 : Nat) : Int))), (2, .int (iI 1))] := hl
  refine lv_aload_n hx hb dX4_edit_0 rfl (lv_at hl 0 rfl) ?_
  refine va_get (D := D) (ci := 4) (v := .ref h) (C := RX4) (T := TX4) (N := 7) hx hb hts nX4_edit_X4 hown hK hP 0 rfl rfl 2 (by decide) (hts _ kX4_edit_28) (fun _ h9 => h9) rfl dX4_edit_1 ?_
  refine lv_iload_n hx hb dX4_edit_4 rfl (lv_at hl 1 rfl) ?_
  refine callVO (n := 1) (As := [.int (iI ((e1 : Nat) : Int))]) (rest := []) (wc := [(h, .inr (0, [.ref a1, .ref a2, .ref a3, .int (iI ((tt : Nat) : Int)), .ref a4, .int (iI ((ln : Nat) : Int)), .ref a5, .int (iI ((ed : Nat) : Int)), .int (iI ((es : Nat) : Int)), .int (iI ((ac : Nat) : Int)), .int (iI ((cu : Nat) : Int))]))]) S (c_hasEdit l D cI cB cZ cO h a1 a2 a3 a4 a5 tt ln ed es ac cu (((e1 : Nat) : Int)) (by first | assumption | (first | omega | assumption)) (by first | assumption | (first | omega | assumption))) gX4_edit_X0_hasEdit rfl ⟨rfl, rfl⟩ (by decide +kernel) ⟨Nat.le_of_ble_eq_true rfl, Nat.le_of_ble_eq_true rfl⟩ hE hP [1] rfl 0 0 rfl rfl rfl hl.1 rfl (Nat.le_of_ble_eq_true rfl) dX4_edit_5 ⟨Nat.le_of_ble_eq_true rfl, Nat.le_of_ble_eq_true rfl⟩ ?_
  refine r_ifb_ne (tgt := 13) hx hb dX4_edit_8 (by decide) (fun c_1 => ?_) (fun c_1 => ?_)
  · skip
    refine lv_iload_n hx hb dX4_edit_13 rfl (lv_at hl 2 rfl) ?_
    refine lv_tableIn (off := 62) (tgt := 76) hx hb dX4_edit_14 (by rw [iI_toInt ⟨by decide, by decide⟩]; decide) (by rw [iI_toInt ⟨by decide, by decide⟩]; decide) (by rw [iI_toInt ⟨by decide, by decide⟩]; rfl) (by decide) ?_
    refine lv_aload_n hx hb dX4_edit_76 rfl (lv_at hl 0 rfl) ?_
    refine va_get (D := D) (ci := 4) (v := .ref h) (C := RX4) (T := TX4) (N := 7) hx hb hts nX4_edit_X4 hown hK hP 0 rfl rfl 2 (by decide) (hts _ kX4_edit_28) (fun _ h9 => h9) rfl dX4_edit_77 ?_
    refine va_getN (D := D) (ci := 0) (v := .int (iI ((ac : Nat) : Int))) (C := RX0) (T := TX0) (N := 11) hx hb hts nX4_edit_X0 hown hK hP 1 rfl rfl 9 (by decide) (va_Nw.use rfl (hE.2.f 19 rfl)) (fun _ h9 => h9) rfl dX4_edit_80 ?_
    refine lv_iload_n hx hb dX4_edit_83 rfl (lv_at hl 1 rfl) ?_
    refine callSO (n := 2) (As := [.int (iI ((ac : Nat) : Int)), .int (iI ((e1 : Nat) : Int))]) (rest := []) (wc := []) S (c_has l D cI cB cZ cO ac e1 (by first | assumption | (first | omega | assumption)) (by first | assumption | (first | omega | assumption))) gX4_edit_X4_has rfl ⟨rfl, rfl⟩ (by decide +kernel) ⟨Nat.le_of_ble_eq_true rfl, Nat.le_of_ble_eq_true rfl⟩ hE hP [] rfl rfl hl.1 rfl (Nat.le_of_ble_eq_true rfl) dX4_edit_84 ⟨Nat.le_of_ble_eq_true rfl, Nat.le_of_ble_eq_true rfl⟩ ?_
    refine r_ifb_eq (tgt := 94) hx hb dX4_edit_87 (by decide) (fun c_3 => ?_) (fun c_3 => ?_)
    · skip
      refine r_iconst hx hb dX4_edit_94 ?_
      exact r_iretO hx hb hr hlocks ((bI_f (by first | omega | assumption)).symm) dX4_edit_95
    · skip
      refine r_iconst hx hb dX4_edit_90 ?_
      refine lv_goto (tgt := 95) hx hb dX4_edit_91 (by decide) ?_
      exact r_iretO hx hb hr hlocks ((bI_t (by first | omega | assumption)).symm) dX4_edit_95
  · skip
    exfalso; omega

set_option maxHeartbeats 4000000 in
set_option maxRecDepth 100000 in
theorem p_edit_2 (l : Launch) (D : va_G) (cI cB cZ cO : ClassId) (xp : Nat) (xc : Nat) (xs : Nat) (xq : Nat) (xl : Nat) (ag : Nat) (di : Nat) (h : Nat) (a1 : Nat) (a2 : Nat) (a3 : Nat) (a4 : Nat) (a5 : Nat) (tt : Nat) (ln : Nat) (ed : Nat) (es : Nat) (ac : Nat) (cu : Nat) (ow : Nat → Nat) (er : Nat → Nat) (e1 : Nat) (hed : ed ≤ 16) (he1 : e1 < ed) (htt : tt ≤ 160) (how : ∀ k, ow k < 65536) (her : ∀ k, er k < 65536) : Met l yX4_edit wsX4_edit ({ frames := 3, cells := 0, slots := 0, locals := 66 }) (va_Pc [.ref xp, .int (iI ((e1 : Nat) : Int)), .int (iI 2)] (RO D cI cB cZ cO [(xp, .inr (4, [.ref xc, .ref xs, .ref h, .ref xq, .ref xl, .int (iI ((ag : Nat) : Int)), .int (iI ((di : Nat) : Int))])), (h, .inr (0, [.ref a1, .ref a2, .ref a3, .int (iI ((tt : Nat) : Int)), .ref a4, .int (iI ((ln : Nat) : Int)), .ref a5, .int (iI ((ed : Nat) : Int)), .int (iI ((es : Nat) : Int)), .int (iI ((ac : Nat) : Int)), .int (iI ((cu : Nat) : Int))])), (a2, .inl (cI, 160, .inl (rN (ow)))), (a3, .inl (cI, 160, .inl (rN (er))))])) (QO ((cnt (tch ow er e1) tt : Nat) : Int)) 0 0 (fun _ => False) := by
  refine startO (cc := cX4_edit) (maxL := 3) (ret := (some .int)) (by decide) rfl (Nat.le_of_ble_eq_true rfl) ?_
  intro p e s m below meth c S hr hlocks hE hP ls hl
  have hx := S.1
  have hb := S.2.1
  have hown := S.2.2.2.1
  have hts := S.2.2.2.2
  have hK := hE.1
  have hl : lv_has ls 3 [(0, .ref xp), (1, .int (iI ((e1 : Nat) : Int))), (2, .int (iI 2))] := hl
  refine lv_aload_n hx hb dX4_edit_0 rfl (lv_at hl 0 rfl) ?_
  refine va_get (D := D) (ci := 4) (v := .ref h) (C := RX4) (T := TX4) (N := 7) hx hb hts nX4_edit_X4 hown hK hP 0 rfl rfl 2 (by decide) (hts _ kX4_edit_28) (fun _ h9 => h9) rfl dX4_edit_1 ?_
  refine lv_iload_n hx hb dX4_edit_4 rfl (lv_at hl 1 rfl) ?_
  refine callVO (n := 1) (As := [.int (iI ((e1 : Nat) : Int))]) (rest := []) (wc := [(h, .inr (0, [.ref a1, .ref a2, .ref a3, .int (iI ((tt : Nat) : Int)), .ref a4, .int (iI ((ln : Nat) : Int)), .ref a5, .int (iI ((ed : Nat) : Int)), .int (iI ((es : Nat) : Int)), .int (iI ((ac : Nat) : Int)), .int (iI ((cu : Nat) : Int))]))]) S (c_hasEdit l D cI cB cZ cO h a1 a2 a3 a4 a5 tt ln ed es ac cu (((e1 : Nat) : Int)) (by first | assumption | (first | omega | assumption)) (by first | assumption | (first | omega | assumption))) gX4_edit_X0_hasEdit rfl ⟨rfl, rfl⟩ (by decide +kernel) ⟨Nat.le_of_ble_eq_true rfl, Nat.le_of_ble_eq_true rfl⟩ hE hP [1] rfl 0 0 rfl rfl rfl hl.1 rfl (Nat.le_of_ble_eq_true rfl) dX4_edit_5 ⟨Nat.le_of_ble_eq_true rfl, Nat.le_of_ble_eq_true rfl⟩ ?_
  refine r_ifb_ne (tgt := 13) hx hb dX4_edit_8 (by decide) (fun c_1 => ?_) (fun c_1 => ?_)
  · skip
    refine lv_iload_n hx hb dX4_edit_13 rfl (lv_at hl 2 rfl) ?_
    refine lv_tableIn (off := 82) (tgt := 96) hx hb dX4_edit_14 (by rw [iI_toInt ⟨by decide, by decide⟩]; decide) (by rw [iI_toInt ⟨by decide, by decide⟩]; decide) (by rw [iI_toInt ⟨by decide, by decide⟩]; rfl) (by decide) ?_
    refine lv_aload_n hx hb dX4_edit_96 rfl (lv_at hl 0 rfl) ?_
    refine va_get (D := D) (ci := 4) (v := .ref h) (C := RX4) (T := TX4) (N := 7) hx hb hts nX4_edit_X4 hown hK hP 0 rfl rfl 2 (by decide) (hts _ kX4_edit_28) (fun _ h9 => h9) rfl dX4_edit_97 ?_
    refine lv_iload_n hx hb dX4_edit_100 rfl (lv_at hl 1 rfl) ?_
    refine callVO (n := 1) (As := [.int (iI ((e1 : Nat) : Int))]) (rest := []) (wc := [(h, .inr (0, [.ref a1, .ref a2, .ref a3, .int (iI ((tt : Nat) : Int)), .ref a4, .int (iI ((ln : Nat) : Int)), .ref a5, .int (iI ((ed : Nat) : Int)), .int (iI ((es : Nat) : Int)), .int (iI ((ac : Nat) : Int)), .int (iI ((cu : Nat) : Int))])), (a2, .inl (cI, 160, .inl (rN (ow)))), (a3, .inl (cI, 160, .inl (rN (er))))]) S (c_sizeOf l D cI cB cZ cO h a1 a2 a3 a4 a5 tt ln ed es ac cu ow er e1 (by first | assumption | (first | omega | assumption)) (by first | assumption | (first | omega | assumption)) (by first | assumption | (first | omega | assumption)) (by first | assumption | (first | omega | assumption))) gX4_edit_X0_sizeOf rfl ⟨rfl, rfl⟩ (by decide +kernel) ⟨Nat.le_of_ble_eq_true rfl, Nat.le_of_ble_eq_true rfl⟩ hE hP [1, 2, 3] rfl 0 0 rfl rfl rfl hl.1 rfl (Nat.le_of_ble_eq_true rfl) dX4_edit_101 ⟨Nat.le_of_ble_eq_true rfl, Nat.le_of_ble_eq_true rfl⟩ ?_
    exact r_iretO hx hb hr hlocks (rfl) dX4_edit_104
  · skip
    exfalso; omega

set_option maxHeartbeats 4000000 in
set_option maxRecDepth 100000 in
theorem p_edit_3 (l : Launch) (D : va_G) (cI cB cZ cO : ClassId) (xp : Nat) (xc : Nat) (xs : Nat) (xq : Nat) (xl : Nat) (ag : Nat) (di : Nat) (h : Nat) (a1 : Nat) (a2 : Nat) (a3 : Nat) (a4 : Nat) (a5 : Nat) (tt : Nat) (ln : Nat) (ed : Nat) (es : Nat) (ac : Nat) (cu : Nat) (ow : Nat → Nat) (er : Nat → Nat) (e1 : Nat) (hed : ed ≤ 16) (he1 : e1 < ed) (htt : tt ≤ 160) (hac : ac < 65536) (how : ∀ k, ow k < 65536) (her : ∀ k, er k < 65536) : Met l yX4_edit wsX4_edit ({ frames := 3, cells := 0, slots := 0, locals := 68 }) (va_Pc [.ref xp, .int (iI ((e1 : Nat) : Int)), .int (iI 3)] (RO D cI cB cZ cO [(xp, .inr (4, [.ref xc, .ref xs, .ref h, .ref xq, .ref xl, .int (iI ((ag : Nat) : Int)), .int (iI ((di : Nat) : Int))])), (h, .inr (0, [.ref a1, .ref a2, .ref a3, .int (iI ((tt : Nat) : Int)), .ref a4, .int (iI ((ln : Nat) : Int)), .ref a5, .int (iI ((ed : Nat) : Int)), .int (iI ((es : Nat) : Int)), .int (iI ((ac : Nat) : Int)), .int (iI ((cu : Nat) : Int))])), (a2, .inl (cI, 160, .inl (rN (ow)))), (a3, .inl (cI, 160, .inl (rN (er))))])) (QO ((plc ow er tt ac e1 : Nat) : Int)) 0 0 (fun _ => False) := by
  refine startO (cc := cX4_edit) (maxL := 3) (ret := (some .int)) (by decide) rfl (Nat.le_of_ble_eq_true rfl) ?_
  intro p e s m below meth c S hr hlocks hE hP ls hl
  have hx := S.1
  have hb := S.2.1
  have hown := S.2.2.2.1
  have hts := S.2.2.2.2
  have hK := hE.1
  have hl : lv_has ls 3 [(0, .ref xp), (1, .int (iI ((e1 : Nat) : Int))), (2, .int (iI 3))] := hl
  refine lv_aload_n hx hb dX4_edit_0 rfl (lv_at hl 0 rfl) ?_
  refine va_get (D := D) (ci := 4) (v := .ref h) (C := RX4) (T := TX4) (N := 7) hx hb hts nX4_edit_X4 hown hK hP 0 rfl rfl 2 (by decide) (hts _ kX4_edit_28) (fun _ h9 => h9) rfl dX4_edit_1 ?_
  refine lv_iload_n hx hb dX4_edit_4 rfl (lv_at hl 1 rfl) ?_
  refine callVO (n := 1) (As := [.int (iI ((e1 : Nat) : Int))]) (rest := []) (wc := [(h, .inr (0, [.ref a1, .ref a2, .ref a3, .int (iI ((tt : Nat) : Int)), .ref a4, .int (iI ((ln : Nat) : Int)), .ref a5, .int (iI ((ed : Nat) : Int)), .int (iI ((es : Nat) : Int)), .int (iI ((ac : Nat) : Int)), .int (iI ((cu : Nat) : Int))]))]) S (c_hasEdit l D cI cB cZ cO h a1 a2 a3 a4 a5 tt ln ed es ac cu (((e1 : Nat) : Int)) (by first | assumption | (first | omega | assumption)) (by first | assumption | (first | omega | assumption))) gX4_edit_X0_hasEdit rfl ⟨rfl, rfl⟩ (by decide +kernel) ⟨Nat.le_of_ble_eq_true rfl, Nat.le_of_ble_eq_true rfl⟩ hE hP [1] rfl 0 0 rfl rfl rfl hl.1 rfl (Nat.le_of_ble_eq_true rfl) dX4_edit_5 ⟨Nat.le_of_ble_eq_true rfl, Nat.le_of_ble_eq_true rfl⟩ ?_
  refine r_ifb_ne (tgt := 13) hx hb dX4_edit_8 (by decide) (fun c_1 => ?_) (fun c_1 => ?_)
  · skip
    refine lv_iload_n hx hb dX4_edit_13 rfl (lv_at hl 2 rfl) ?_
    refine lv_tableIn (off := 91) (tgt := 105) hx hb dX4_edit_14 (by rw [iI_toInt ⟨by decide, by decide⟩]; decide) (by rw [iI_toInt ⟨by decide, by decide⟩]; decide) (by rw [iI_toInt ⟨by decide, by decide⟩]; rfl) (by decide) ?_
    refine lv_aload_n hx hb dX4_edit_105 rfl (lv_at hl 0 rfl) ?_
    refine va_get (D := D) (ci := 4) (v := .ref h) (C := RX4) (T := TX4) (N := 7) hx hb hts nX4_edit_X4 hown hK hP 0 rfl rfl 2 (by decide) (hts _ kX4_edit_28) (fun _ h9 => h9) rfl dX4_edit_106 ?_
    refine lv_iload_n hx hb dX4_edit_109 rfl (lv_at hl 1 rfl) ?_
    refine callVO (n := 1) (As := [.int (iI ((e1 : Nat) : Int))]) (rest := []) (wc := [(h, .inr (0, [.ref a1, .ref a2, .ref a3, .int (iI ((tt : Nat) : Int)), .ref a4, .int (iI ((ln : Nat) : Int)), .ref a5, .int (iI ((ed : Nat) : Int)), .int (iI ((es : Nat) : Int)), .int (iI ((ac : Nat) : Int)), .int (iI ((cu : Nat) : Int))])), (a2, .inl (cI, 160, .inl (rN (ow)))), (a3, .inl (cI, 160, .inl (rN (er))))]) S (c_placeOf l D cI cB cZ cO h a1 a2 a3 a4 a5 tt ln ed es ac cu ow er e1 (by first | assumption | (first | omega | assumption)) (by first | assumption | (first | omega | assumption)) (by first | assumption | (first | omega | assumption)) (by first | assumption | (first | omega | assumption)) (by first | assumption | (first | omega | assumption))) gX4_edit_X0_placeOf rfl ⟨rfl, rfl⟩ (by decide +kernel) ⟨Nat.le_of_ble_eq_true rfl, Nat.le_of_ble_eq_true rfl⟩ hE hP [1, 2, 3] rfl 0 0 rfl rfl rfl hl.1 rfl (Nat.le_of_ble_eq_true rfl) dX4_edit_110 ⟨Nat.le_of_ble_eq_true rfl, Nat.le_of_ble_eq_true rfl⟩ ?_
    exact r_iretO hx hb hr hlocks (rfl) dX4_edit_113
  · skip
    exfalso; omega

theorem kX4_edit_43 : Cond.fieldLink RX4 43 "PricedUndo" "ageRate" "I" ∈ wsX4_edit := by decide +kernel
theorem kX4_edit_47 : Cond.fieldLink RX4 47 "PricedUndo" "distanceRate" "I" ∈ wsX4_edit := by decide +kernel
set_option maxHeartbeats 4000000 in
set_option maxRecDepth 100000 in
theorem p_edit_4 (l : Launch) (D : va_G) (cI cB cZ cO : ClassId) (xp : Nat) (xc : Nat) (xs : Nat) (xq : Nat) (xl : Nat) (ag : Nat) (di : Nat) (h : Nat) (a1 : Nat) (a2 : Nat) (a3 : Nat) (a4 : Nat) (a5 : Nat) (tt : Nat) (ln : Nat) (ed : Nat) (es : Nat) (ac : Nat) (cu : Nat) (ow : Nat → Nat) (er : Nat → Nat) (e1 : Nat) (hed : ed ≤ 16) (he1 : e1 < ed) (htt : tt ≤ 160) (hac : ac < 65536) (hcu : cu ≤ 60) (hac1 : ac.testBit e1 = true) (how : ∀ k, ow k < 65536) (her : ∀ k, er k < 65536) : Met l yX4_edit wsX4_edit ({ frames := 4, cells := 0, slots := 0, locals := 93 }) (va_Pc [.ref xp, .int (iI ((e1 : Nat) : Int)), .int (iI 4)] (RO D cI cB cZ cO [(xp, .inr (4, [.ref xc, .ref xs, .ref h, .ref xq, .ref xl, .int (iI ((ag : Nat) : Int)), .int (iI ((di : Nat) : Int))])), (h, .inr (0, [.ref a1, .ref a2, .ref a3, .int (iI ((tt : Nat) : Int)), .ref a4, .int (iI ((ln : Nat) : Int)), .ref a5, .int (iI ((ed : Nat) : Int)), .int (iI ((es : Nat) : Int)), .int (iI ((ac : Nat) : Int)), .int (iI ((cu : Nat) : Int))])), (a2, .inl (cI, 160, .inl (rN (ow)))), (a3, .inl (cI, 160, .inl (rN (er))))])) (QO ((prc ow er tt ac cu ag di e1 : Nat) : Int)) 0 0 (fun _ => False) := by
  refine startO (cc := cX4_edit) (maxL := 3) (ret := (some .int)) (by decide) rfl (Nat.le_of_ble_eq_true rfl) ?_
  intro p e s m below meth c S hr hlocks hE hP ls hl
  have hx := S.1
  have hb := S.2.1
  have hown := S.2.2.2.1
  have hts := S.2.2.2.2
  have hK := hE.1
  have hl : lv_has ls 3 [(0, .ref xp), (1, .int (iI ((e1 : Nat) : Int))), (2, .int (iI 4))] := hl
  refine lv_aload_n hx hb dX4_edit_0 rfl (lv_at hl 0 rfl) ?_
  refine va_get (D := D) (ci := 4) (v := .ref h) (C := RX4) (T := TX4) (N := 7) hx hb hts nX4_edit_X4 hown hK hP 0 rfl rfl 2 (by decide) (hts _ kX4_edit_28) (fun _ h9 => h9) rfl dX4_edit_1 ?_
  refine lv_iload_n hx hb dX4_edit_4 rfl (lv_at hl 1 rfl) ?_
  refine callVO (n := 1) (As := [.int (iI ((e1 : Nat) : Int))]) (rest := []) (wc := [(h, .inr (0, [.ref a1, .ref a2, .ref a3, .int (iI ((tt : Nat) : Int)), .ref a4, .int (iI ((ln : Nat) : Int)), .ref a5, .int (iI ((ed : Nat) : Int)), .int (iI ((es : Nat) : Int)), .int (iI ((ac : Nat) : Int)), .int (iI ((cu : Nat) : Int))]))]) S (c_hasEdit l D cI cB cZ cO h a1 a2 a3 a4 a5 tt ln ed es ac cu (((e1 : Nat) : Int)) (by first | assumption | (first | omega | assumption)) (by first | assumption | (first | omega | assumption))) gX4_edit_X0_hasEdit rfl ⟨rfl, rfl⟩ (by decide +kernel) ⟨Nat.le_of_ble_eq_true rfl, Nat.le_of_ble_eq_true rfl⟩ hE hP [1] rfl 0 0 rfl rfl rfl hl.1 rfl (Nat.le_of_ble_eq_true rfl) dX4_edit_5 ⟨Nat.le_of_ble_eq_true rfl, Nat.le_of_ble_eq_true rfl⟩ ?_
  refine r_ifb_ne (tgt := 13) hx hb dX4_edit_8 (by decide) (fun c_1 => ?_) (fun c_1 => ?_)
  · skip
    refine lv_iload_n hx hb dX4_edit_13 rfl (lv_at hl 2 rfl) ?_
    refine lv_tableIn (off := 100) (tgt := 114) hx hb dX4_edit_14 (by rw [iI_toInt ⟨by decide, by decide⟩]; decide) (by rw [iI_toInt ⟨by decide, by decide⟩]; decide) (by rw [iI_toInt ⟨by decide, by decide⟩]; rfl) (by decide) ?_
    refine lv_aload_n hx hb dX4_edit_114 rfl (lv_at hl 0 rfl) ?_
    refine va_get (D := D) (ci := 4) (v := .ref h) (C := RX4) (T := TX4) (N := 7) hx hb hts nX4_edit_X4 hown hK hP 0 rfl rfl 2 (by decide) (hts _ kX4_edit_28) (fun _ h9 => h9) rfl dX4_edit_115 ?_
    refine va_getN (D := D) (ci := 0) (v := .int (iI ((ac : Nat) : Int))) (C := RX0) (T := TX0) (N := 11) hx hb hts nX4_edit_X0 hown hK hP 1 rfl rfl 9 (by decide) (va_Nw.use rfl (hE.2.f 19 rfl)) (fun _ h9 => h9) rfl dX4_edit_118 ?_
    refine lv_iload_n hx hb dX4_edit_121 rfl (lv_at hl 1 rfl) ?_
    refine callSO (n := 2) (As := [.int (iI ((ac : Nat) : Int)), .int (iI ((e1 : Nat) : Int))]) (rest := []) (wc := []) S (c_has l D cI cB cZ cO ac e1 (by first | assumption | (first | omega | assumption)) (by first | assumption | (first | omega | assumption))) gX4_edit_X4_has rfl ⟨rfl, rfl⟩ (by decide +kernel) ⟨Nat.le_of_ble_eq_true rfl, Nat.le_of_ble_eq_true rfl⟩ hE hP [] rfl rfl hl.1 rfl (Nat.le_of_ble_eq_true rfl) dX4_edit_122 ⟨Nat.le_of_ble_eq_true rfl, Nat.le_of_ble_eq_true rfl⟩ ?_
    refine r_ifb_eq (tgt := 147) hx hb dX4_edit_125 (by decide) (fun c_3 => ?_) (fun c_3 => ?_)
    · skip
      exfalso; exact absurd hac1 (by assumption)
    · skip
      refine lv_aload_n hx hb dX4_edit_128 rfl (lv_at hl 0 rfl) ?_
      refine va_get (D := D) (ci := 4) (v := .ref h) (C := RX4) (T := TX4) (N := 7) hx hb hts nX4_edit_X4 hown hK hP 0 rfl rfl 2 (by decide) (hts _ kX4_edit_28) (fun _ h9 => h9) rfl dX4_edit_129 ?_
      refine lv_iload_n hx hb dX4_edit_132 rfl (lv_at hl 1 rfl) ?_
      refine lv_aload_n hx hb dX4_edit_133 rfl (lv_at hl 0 rfl) ?_
      refine va_get (D := D) (ci := 4) (v := .int (iI ((ag : Nat) : Int))) (C := RX4) (T := TX4) (N := 7) hx hb hts nX4_edit_X4 hown hK hP 0 rfl rfl 5 (by decide) (hts _ kX4_edit_43) (fun _ h9 => h9) rfl dX4_edit_134 ?_
      refine lv_aload_n hx hb dX4_edit_137 rfl (lv_at hl 0 rfl) ?_
      refine va_get (D := D) (ci := 4) (v := .int (iI ((di : Nat) : Int))) (C := RX4) (T := TX4) (N := 7) hx hb hts nX4_edit_X4 hown hK hP 0 rfl rfl 6 (by decide) (hts _ kX4_edit_47) (fun _ h9 => h9) rfl dX4_edit_138 ?_
      refine callVO (n := 3) (As := [.int (iI ((e1 : Nat) : Int)), .int (iI ((ag : Nat) : Int)), .int (iI ((di : Nat) : Int))]) (rest := []) (wc := [(h, .inr (0, [.ref a1, .ref a2, .ref a3, .int (iI ((tt : Nat) : Int)), .ref a4, .int (iI ((ln : Nat) : Int)), .ref a5, .int (iI ((ed : Nat) : Int)), .int (iI ((es : Nat) : Int)), .int (iI ((ac : Nat) : Int)), .int (iI ((cu : Nat) : Int))])), (a2, .inl (cI, 160, .inl (rN (ow)))), (a3, .inl (cI, 160, .inl (rN (er))))]) S (c_priceOf l D cI cB cZ cO h a1 a2 a3 a4 a5 tt ln ed es ac cu ow er e1 ag di (by first | assumption | (first | omega | assumption)) (by first | assumption | (first | omega | assumption)) (by first | assumption | (first | omega | assumption)) (by first | assumption | (first | omega | assumption)) (by first | assumption | (first | omega | assumption)) (by first | assumption | (first | omega | assumption))) gX4_edit_X0_priceOf rfl ⟨rfl, rfl⟩ (by decide +kernel) ⟨Nat.le_of_ble_eq_true rfl, Nat.le_of_ble_eq_true rfl⟩ hE hP [1, 2, 3] rfl 0 0 rfl rfl rfl hl.1 rfl (Nat.le_of_ble_eq_true rfl) dX4_edit_141 ⟨Nat.le_of_ble_eq_true rfl, Nat.le_of_ble_eq_true rfl⟩ ?_
      refine lv_goto (tgt := 149) hx hb dX4_edit_144 (by decide) ?_
      exact r_iretO hx hb hr hlocks (rfl) dX4_edit_149
  · skip
    exfalso; omega

set_option maxHeartbeats 4000000 in
set_option maxRecDepth 100000 in
theorem p_edit_5 (l : Launch) (D : va_G) (cI cB cZ cO : ClassId) (xp : Nat) (xc : Nat) (xs : Nat) (xq : Nat) (xl : Nat) (ag : Nat) (di : Nat) (h : Nat) (a1 : Nat) (a2 : Nat) (a3 : Nat) (a4 : Nat) (a5 : Nat) (tt : Nat) (ln : Nat) (ed : Nat) (es : Nat) (ac : Nat) (cu : Nat) (ba : Nat → Nat) (e1 : Nat) (hed : ed ≤ 16) (he1 : e1 < ed) : Met l yX4_edit wsX4_edit ({ frames := 2, cells := 0, slots := 0, locals := 42 }) (va_Pc [.ref xp, .int (iI ((e1 : Nat) : Int)), .int (iI 5)] (RO D cI cB cZ cO [(xp, .inr (4, [.ref xc, .ref xs, .ref h, .ref xq, .ref xl, .int (iI ((ag : Nat) : Int)), .int (iI ((di : Nat) : Int))])), (h, .inr (0, [.ref a1, .ref a2, .ref a3, .int (iI ((tt : Nat) : Int)), .ref a4, .int (iI ((ln : Nat) : Int)), .ref a5, .int (iI ((ed : Nat) : Int)), .int (iI ((es : Nat) : Int)), .int (iI ((ac : Nat) : Int)), .int (iI ((cu : Nat) : Int))])), (a5, .inl (cI, 16, .inl (rN (ba))))])) (QO ((ba e1 : Nat) : Int)) 0 0 (fun _ => False) := by
  refine startO (cc := cX4_edit) (maxL := 3) (ret := (some .int)) (by decide) rfl (Nat.le_of_ble_eq_true rfl) ?_
  intro p e s m below meth c S hr hlocks hE hP ls hl
  have hx := S.1
  have hb := S.2.1
  have hown := S.2.2.2.1
  have hts := S.2.2.2.2
  have hK := hE.1
  have hl : lv_has ls 3 [(0, .ref xp), (1, .int (iI ((e1 : Nat) : Int))), (2, .int (iI 5))] := hl
  refine lv_aload_n hx hb dX4_edit_0 rfl (lv_at hl 0 rfl) ?_
  refine va_get (D := D) (ci := 4) (v := .ref h) (C := RX4) (T := TX4) (N := 7) hx hb hts nX4_edit_X4 hown hK hP 0 rfl rfl 2 (by decide) (hts _ kX4_edit_28) (fun _ h9 => h9) rfl dX4_edit_1 ?_
  refine lv_iload_n hx hb dX4_edit_4 rfl (lv_at hl 1 rfl) ?_
  refine callVO (n := 1) (As := [.int (iI ((e1 : Nat) : Int))]) (rest := []) (wc := [(h, .inr (0, [.ref a1, .ref a2, .ref a3, .int (iI ((tt : Nat) : Int)), .ref a4, .int (iI ((ln : Nat) : Int)), .ref a5, .int (iI ((ed : Nat) : Int)), .int (iI ((es : Nat) : Int)), .int (iI ((ac : Nat) : Int)), .int (iI ((cu : Nat) : Int))]))]) S (c_hasEdit l D cI cB cZ cO h a1 a2 a3 a4 a5 tt ln ed es ac cu (((e1 : Nat) : Int)) (by first | assumption | (first | omega | assumption)) (by first | assumption | (first | omega | assumption))) gX4_edit_X0_hasEdit rfl ⟨rfl, rfl⟩ (by decide +kernel) ⟨Nat.le_of_ble_eq_true rfl, Nat.le_of_ble_eq_true rfl⟩ hE hP [1] rfl 0 0 rfl rfl rfl hl.1 rfl (Nat.le_of_ble_eq_true rfl) dX4_edit_5 ⟨Nat.le_of_ble_eq_true rfl, Nat.le_of_ble_eq_true rfl⟩ ?_
  refine r_ifb_ne (tgt := 13) hx hb dX4_edit_8 (by decide) (fun c_1 => ?_) (fun c_1 => ?_)
  · skip
    refine lv_iload_n hx hb dX4_edit_13 rfl (lv_at hl 2 rfl) ?_
    refine lv_tableIn (off := 136) (tgt := 150) hx hb dX4_edit_14 (by rw [iI_toInt ⟨by decide, by decide⟩]; decide) (by rw [iI_toInt ⟨by decide, by decide⟩]; decide) (by rw [iI_toInt ⟨by decide, by decide⟩]; rfl) (by decide) ?_
    refine lv_aload_n hx hb dX4_edit_150 rfl (lv_at hl 0 rfl) ?_
    refine va_get (D := D) (ci := 4) (v := .ref h) (C := RX4) (T := TX4) (N := 7) hx hb hts nX4_edit_X4 hown hK hP 0 rfl rfl 2 (by decide) (hts _ kX4_edit_28) (fun _ h9 => h9) rfl dX4_edit_151 ?_
    refine lv_iload_n hx hb dX4_edit_154 rfl (lv_at hl 1 rfl) ?_
    refine callVO (n := 1) (As := [.int (iI ((e1 : Nat) : Int))]) (rest := []) (wc := [(h, .inr (0, [.ref a1, .ref a2, .ref a3, .int (iI ((tt : Nat) : Int)), .ref a4, .int (iI ((ln : Nat) : Int)), .ref a5, .int (iI ((ed : Nat) : Int)), .int (iI ((es : Nat) : Int)), .int (iI ((ac : Nat) : Int)), .int (iI ((cu : Nat) : Int))])), (a5, .inl (cI, 16, .inl (rN (ba))))]) S (c_basesOf l D cI cB cZ cO h a1 a2 a3 a4 a5 tt ln ed es ac cu ba e1 (by first | assumption | (first | omega | assumption)) (by first | assumption | (first | omega | assumption))) gX4_edit_X0_basesOf rfl ⟨rfl, rfl⟩ (by decide +kernel) ⟨Nat.le_of_ble_eq_true rfl, Nat.le_of_ble_eq_true rfl⟩ hE hP [1, 2] rfl 0 0 rfl rfl rfl hl.1 rfl (Nat.le_of_ble_eq_true rfl) dX4_edit_155 ⟨Nat.le_of_ble_eq_true rfl, Nat.le_of_ble_eq_true rfl⟩ ?_
    exact r_iretO hx hb hr hlocks (rfl) dX4_edit_158
  · skip
    exfalso; omega

set_option maxHeartbeats 4000000 in
set_option maxRecDepth 100000 in
theorem p_edit_6 (l : Launch) (D : va_G) (cI cB cZ cO : ClassId) (xp : Nat) (xc : Nat) (xs : Nat) (xq : Nat) (xl : Nat) (ag : Nat) (di : Nat) (h : Nat) (a1 : Nat) (a2 : Nat) (a3 : Nat) (a4 : Nat) (a5 : Nat) (tt : Nat) (ln : Nat) (ed : Nat) (es : Nat) (ac : Nat) (cu : Nat) (ba : Nat → Nat) (e1 : Nat) (hed : ed ≤ 16) (he1 : e1 < ed) (hba : ∀ k, ba k < 65536) : Met l yX4_edit wsX4_edit ({ frames := 2, cells := 0, slots := 0, locals := 43 }) (va_Pc [.ref xp, .int (iI ((e1 : Nat) : Int)), .int (iI 6)] (RO D cI cB cZ cO [(xp, .inr (4, [.ref xc, .ref xs, .ref h, .ref xq, .ref xl, .int (iI ((ag : Nat) : Int)), .int (iI ((di : Nat) : Int))])), (h, .inr (0, [.ref a1, .ref a2, .ref a3, .int (iI ((tt : Nat) : Int)), .ref a4, .int (iI ((ln : Nat) : Int)), .ref a5, .int (iI ((ed : Nat) : Int)), .int (iI ((es : Nat) : Int)), .int (iI ((ac : Nat) : Int)), .int (iI ((cu : Nat) : Int))])), (a5, .inl (cI, 16, .inl (rN (ba))))])) (QO ((dep ba ed (2 ^ e1) : Nat) : Int)) 0 0 (fun _ => False) := by
  refine startO (cc := cX4_edit) (maxL := 3) (ret := (some .int)) (by decide) rfl (Nat.le_of_ble_eq_true rfl) ?_
  intro p e s m below meth c S hr hlocks hE hP ls hl
  have hx := S.1
  have hb := S.2.1
  have hown := S.2.2.2.1
  have hts := S.2.2.2.2
  have hK := hE.1
  have hl : lv_has ls 3 [(0, .ref xp), (1, .int (iI ((e1 : Nat) : Int))), (2, .int (iI 6))] := hl
  refine lv_aload_n hx hb dX4_edit_0 rfl (lv_at hl 0 rfl) ?_
  refine va_get (D := D) (ci := 4) (v := .ref h) (C := RX4) (T := TX4) (N := 7) hx hb hts nX4_edit_X4 hown hK hP 0 rfl rfl 2 (by decide) (hts _ kX4_edit_28) (fun _ h9 => h9) rfl dX4_edit_1 ?_
  refine lv_iload_n hx hb dX4_edit_4 rfl (lv_at hl 1 rfl) ?_
  refine callVO (n := 1) (As := [.int (iI ((e1 : Nat) : Int))]) (rest := []) (wc := [(h, .inr (0, [.ref a1, .ref a2, .ref a3, .int (iI ((tt : Nat) : Int)), .ref a4, .int (iI ((ln : Nat) : Int)), .ref a5, .int (iI ((ed : Nat) : Int)), .int (iI ((es : Nat) : Int)), .int (iI ((ac : Nat) : Int)), .int (iI ((cu : Nat) : Int))]))]) S (c_hasEdit l D cI cB cZ cO h a1 a2 a3 a4 a5 tt ln ed es ac cu (((e1 : Nat) : Int)) (by first | assumption | (first | omega | assumption)) (by first | assumption | (first | omega | assumption))) gX4_edit_X0_hasEdit rfl ⟨rfl, rfl⟩ (by decide +kernel) ⟨Nat.le_of_ble_eq_true rfl, Nat.le_of_ble_eq_true rfl⟩ hE hP [1] rfl 0 0 rfl rfl rfl hl.1 rfl (Nat.le_of_ble_eq_true rfl) dX4_edit_5 ⟨Nat.le_of_ble_eq_true rfl, Nat.le_of_ble_eq_true rfl⟩ ?_
  refine r_ifb_ne (tgt := 13) hx hb dX4_edit_8 (by decide) (fun c_1 => ?_) (fun c_1 => ?_)
  · skip
    refine lv_iload_n hx hb dX4_edit_13 rfl (lv_at hl 2 rfl) ?_
    refine lv_tableIn (off := 145) (tgt := 159) hx hb dX4_edit_14 (by rw [iI_toInt ⟨by decide, by decide⟩]; decide) (by rw [iI_toInt ⟨by decide, by decide⟩]; decide) (by rw [iI_toInt ⟨by decide, by decide⟩]; rfl) (by decide) ?_
    refine lv_aload_n hx hb dX4_edit_159 rfl (lv_at hl 0 rfl) ?_
    refine va_get (D := D) (ci := 4) (v := .ref h) (C := RX4) (T := TX4) (N := 7) hx hb hts nX4_edit_X4 hown hK hP 0 rfl rfl 2 (by decide) (hts _ kX4_edit_28) (fun _ h9 => h9) rfl dX4_edit_160 ?_
    refine lv_iload_n hx hb dX4_edit_163 rfl (lv_at hl 1 rfl) ?_
    refine callSO (n := 1) (As := [.int (iI ((e1 : Nat) : Int))]) (rest := [.ref h]) (wc := []) S (c_single l D cI cB cZ cO e1 (by first | assumption | (first | omega | assumption))) gX4_edit_X4_single rfl ⟨rfl, rfl⟩ (by decide +kernel) ⟨Nat.le_of_ble_eq_true rfl, Nat.le_of_ble_eq_true rfl⟩ hE hP [] rfl rfl hl.1 rfl (Nat.le_of_ble_eq_true rfl) dX4_edit_164 ⟨Nat.le_of_ble_eq_true rfl, Nat.le_of_ble_eq_true rfl⟩ ?_
    refine callVO (n := 1) (As := [.int (iI ((2 ^ e1 : Nat) : Int))]) (rest := []) (wc := [(h, .inr (0, [.ref a1, .ref a2, .ref a3, .int (iI ((tt : Nat) : Int)), .ref a4, .int (iI ((ln : Nat) : Int)), .ref a5, .int (iI ((ed : Nat) : Int)), .int (iI ((es : Nat) : Int)), .int (iI ((ac : Nat) : Int)), .int (iI ((cu : Nat) : Int))])), (a5, .inl (cI, 16, .inl (rN (ba))))]) S (c_dependentsOf l D cI cB cZ cO h a1 a2 a3 a4 a5 tt ln ed es ac cu ba (2 ^ e1) (by first | assumption | (first | omega | assumption)) (by first | assumption | (first | omega | assumption))) gX4_edit_X0_dependentsOf rfl ⟨rfl, rfl⟩ (by decide +kernel) ⟨Nat.le_of_ble_eq_true rfl, Nat.le_of_ble_eq_true rfl⟩ hE hP [1, 2] rfl 0 0 rfl rfl rfl hl.1 rfl (Nat.le_of_ble_eq_true rfl) dX4_edit_167 ⟨Nat.le_of_ble_eq_true rfl, Nat.le_of_ble_eq_true rfl⟩ ?_
    exact r_iretO hx hb hr hlocks (rfl) dX4_edit_170
  · skip
    exfalso; omega

set_option maxHeartbeats 4000000 in
set_option maxRecDepth 100000 in
theorem p_edit_4n (l : Launch) (D : va_G) (cI cB cZ cO : ClassId) (xp : Nat) (xc : Nat) (xs : Nat) (xq : Nat) (xl : Nat) (ag : Nat) (di : Nat) (h : Nat) (a1 : Nat) (a2 : Nat) (a3 : Nat) (a4 : Nat) (a5 : Nat) (tt : Nat) (ln : Nat) (ed : Nat) (es : Nat) (ac : Nat) (cu : Nat) (e1 : Nat) (hed : ed ≤ 16) (he1 : e1 < ed) (hac : ac < 65536) (hac1 : ¬ ac.testBit e1 = true) : Met l yX4_edit wsX4_edit ({ frames := 1, cells := 0, slots := 0, locals := 21 }) (va_Pc [.ref xp, .int (iI ((e1 : Nat) : Int)), .int (iI 4)] (RO D cI cB cZ cO [(xp, .inr (4, [.ref xc, .ref xs, .ref h, .ref xq, .ref xl, .int (iI ((ag : Nat) : Int)), .int (iI ((di : Nat) : Int))])), (h, .inr (0, [.ref a1, .ref a2, .ref a3, .int (iI ((tt : Nat) : Int)), .ref a4, .int (iI ((ln : Nat) : Int)), .ref a5, .int (iI ((ed : Nat) : Int)), .int (iI ((es : Nat) : Int)), .int (iI ((ac : Nat) : Int)), .int (iI ((cu : Nat) : Int))]))])) (QO (-9)) 0 0 (fun _ => False) := by
  refine startO (cc := cX4_edit) (maxL := 3) (ret := (some .int)) (by decide) rfl (Nat.le_of_ble_eq_true rfl) ?_
  intro p e s m below meth c S hr hlocks hE hP ls hl
  have hx := S.1
  have hb := S.2.1
  have hown := S.2.2.2.1
  have hts := S.2.2.2.2
  have hK := hE.1
  have hl : lv_has ls 3 [(0, .ref xp), (1, .int (iI ((e1 : Nat) : Int))), (2, .int (iI 4))] := hl
  refine lv_aload_n hx hb dX4_edit_0 rfl (lv_at hl 0 rfl) ?_
  refine va_get (D := D) (ci := 4) (v := .ref h) (C := RX4) (T := TX4) (N := 7) hx hb hts nX4_edit_X4 hown hK hP 0 rfl rfl 2 (by decide) (hts _ kX4_edit_28) (fun _ h9 => h9) rfl dX4_edit_1 ?_
  refine lv_iload_n hx hb dX4_edit_4 rfl (lv_at hl 1 rfl) ?_
  refine callVO (n := 1) (As := [.int (iI ((e1 : Nat) : Int))]) (rest := []) (wc := [(h, .inr (0, [.ref a1, .ref a2, .ref a3, .int (iI ((tt : Nat) : Int)), .ref a4, .int (iI ((ln : Nat) : Int)), .ref a5, .int (iI ((ed : Nat) : Int)), .int (iI ((es : Nat) : Int)), .int (iI ((ac : Nat) : Int)), .int (iI ((cu : Nat) : Int))]))]) S (c_hasEdit l D cI cB cZ cO h a1 a2 a3 a4 a5 tt ln ed es ac cu (((e1 : Nat) : Int)) (by first | assumption | (omega)) (by first | assumption | (omega))) gX4_edit_X0_hasEdit rfl ⟨rfl, rfl⟩ (by decide +kernel) ⟨Nat.le_of_ble_eq_true rfl, Nat.le_of_ble_eq_true rfl⟩ hE hP [1] rfl 0 0 rfl rfl rfl hl.1 rfl (Nat.le_of_ble_eq_true rfl) dX4_edit_5 ⟨Nat.le_of_ble_eq_true rfl, Nat.le_of_ble_eq_true rfl⟩ ?_
  refine r_ifb_ne (tgt := 13) hx hb dX4_edit_8 (by decide) (fun c_1 => ?_) (fun c_1 => ?_)
  · skip
    refine lv_iload_n hx hb dX4_edit_13 rfl (lv_at hl 2 rfl) ?_
    refine lv_tableIn (off := 100) (tgt := 114) hx hb dX4_edit_14 (by rw [iI_toInt ⟨by decide, by decide⟩]; decide) (by rw [iI_toInt ⟨by decide, by decide⟩]; decide) (by rw [iI_toInt ⟨by decide, by decide⟩]; rfl) (by decide) ?_
    refine lv_aload_n hx hb dX4_edit_114 rfl (lv_at hl 0 rfl) ?_
    refine va_get (D := D) (ci := 4) (v := .ref h) (C := RX4) (T := TX4) (N := 7) hx hb hts nX4_edit_X4 hown hK hP 0 rfl rfl 2 (by decide) (hts _ kX4_edit_28) (fun _ h9 => h9) rfl dX4_edit_115 ?_
    refine va_getN (D := D) (ci := 0) (v := .int (iI ((ac : Nat) : Int))) (C := RX0) (T := TX0) (N := 11) hx hb hts nX4_edit_X0 hown hK hP 1 rfl rfl 9 (by decide) (va_Nw.use rfl (hE.2.f 19 rfl)) (fun _ h9 => h9) rfl dX4_edit_118 ?_
    refine lv_iload_n hx hb dX4_edit_121 rfl (lv_at hl 1 rfl) ?_
    refine callSO (n := 2) (As := [.int (iI ((ac : Nat) : Int)), .int (iI ((e1 : Nat) : Int))]) (rest := []) (wc := []) S (c_has l D cI cB cZ cO ac e1 (by first | assumption | (omega)) (by first | assumption | (omega))) gX4_edit_X4_has rfl ⟨rfl, rfl⟩ (by decide +kernel) ⟨Nat.le_of_ble_eq_true rfl, Nat.le_of_ble_eq_true rfl⟩ hE hP [] rfl rfl hl.1 rfl (Nat.le_of_ble_eq_true rfl) dX4_edit_122 ⟨Nat.le_of_ble_eq_true rfl, Nat.le_of_ble_eq_true rfl⟩ ?_
    refine r_ifb_eq (tgt := 147) hx hb dX4_edit_125 (by decide) (fun c_3 => ?_) (fun c_3 => ?_)
    · skip
      refine r_bipush hx hb dX4_edit_147 (by decide) ?_
      exact r_iretO hx hb hr hlocks (rfl) dX4_edit_149
    · skip
      exfalso; exact hac1 (by assumption)
  · skip
    exfalso; omega

theorem kX4_commute_28 : Cond.fieldLink RX4 28 "PricedUndo" "buffer" "LPricedUndo$Buffer;" ∈ wsX4_commute := by decide +kernel
theorem nX4_commute_X4 : ∀ w ∈ u_ws RX4 TX4 7, w ∈ wsX4_commute := by decide +kernel
set_option maxHeartbeats 4000000 in
set_option maxRecDepth 100000 in
theorem p_commute_bad (l : Launch) (D : va_G) (cI cB cZ cO : ClassId) (xp : Nat) (xc : Nat) (xs : Nat) (xq : Nat) (xl : Nat) (ag : Nat) (di : Nat) (h : Nat) (a1 : Nat) (a2 : Nat) (a3 : Nat) (a4 : Nat) (a5 : Nat) (tt : Nat) (ln : Nat) (ed : Nat) (es : Nat) (ac : Nat) (cu : Nat) (x : Int) (y : Int) (hed : ed ≤ 16) (rx : rg x) (ry : rg y) (hbad : ¬ (0 ≤ x ∧ x < (ed : Int) ∧ 0 ≤ y ∧ y < (ed : Int) ∧ ¬ x = y)) : Met l yX4_commute wsX4_commute ({ frames := 1, cells := 0, slots := 0, locals := 21 }) (va_Pc [.ref xp, .int (iI (x)), .int (iI (y))] (RO D cI cB cZ cO [(xp, .inr (4, [.ref xc, .ref xs, .ref h, .ref xq, .ref xl, .int (iI ((ag : Nat) : Int)), .int (iI ((di : Nat) : Int))])), (h, .inr (0, [.ref a1, .ref a2, .ref a3, .int (iI ((tt : Nat) : Int)), .ref a4, .int (iI ((ln : Nat) : Int)), .ref a5, .int (iI ((ed : Nat) : Int)), .int (iI ((es : Nat) : Int)), .int (iI ((ac : Nat) : Int)), .int (iI ((cu : Nat) : Int))]))])) (QO (-1)) 0 0 (fun _ => False) := by
  refine startO (cc := cX4_commute) (maxL := 3) (ret := (some .int)) (by decide) rfl (Nat.le_of_ble_eq_true rfl) ?_
  intro p e s m below meth c S hr hlocks hE hP ls hl
  have hx := S.1
  have hb := S.2.1
  have hown := S.2.2.2.1
  have hts := S.2.2.2.2
  have hK := hE.1
  have hl : lv_has ls 3 [(0, .ref xp), (1, .int (iI (x))), (2, .int (iI (y)))] := hl
  refine lv_aload_n hx hb dX4_commute_0 rfl (lv_at hl 0 rfl) ?_
  refine va_get (D := D) (ci := 4) (v := .ref h) (C := RX4) (T := TX4) (N := 7) hx hb hts nX4_commute_X4 hown hK hP 0 rfl rfl 2 (by decide) (hts _ kX4_commute_28) (fun _ h9 => h9) rfl dX4_commute_1 ?_
  refine lv_iload_n hx hb dX4_commute_4 rfl (lv_at hl 1 rfl) ?_
  refine callVO (n := 1) (As := [.int (iI (x))]) (rest := []) (wc := [(h, .inr (0, [.ref a1, .ref a2, .ref a3, .int (iI ((tt : Nat) : Int)), .ref a4, .int (iI ((ln : Nat) : Int)), .ref a5, .int (iI ((ed : Nat) : Int)), .int (iI ((es : Nat) : Int)), .int (iI ((ac : Nat) : Int)), .int (iI ((cu : Nat) : Int))]))]) S (c_hasEdit l D cI cB cZ cO h a1 a2 a3 a4 a5 tt ln ed es ac cu x (by first | assumption | (omega)) (by first | assumption | (omega))) gX4_commute_X0_hasEdit rfl ⟨rfl, rfl⟩ (by decide +kernel) ⟨Nat.le_of_ble_eq_true rfl, Nat.le_of_ble_eq_true rfl⟩ hE hP [1] rfl 0 0 rfl rfl rfl hl.1 rfl (Nat.le_of_ble_eq_true rfl) dX4_commute_5 ⟨Nat.le_of_ble_eq_true rfl, Nat.le_of_ble_eq_true rfl⟩ ?_
  refine r_ifb_eq (tgt := 27) hx hb dX4_commute_8 (by decide) (fun c_1 => ?_) (fun c_1 => ?_)
  · skip
    refine r_iconst hx hb dX4_commute_27 ?_
    exact r_iretO hx hb hr hlocks (rfl) dX4_commute_28
  · skip
    refine lv_aload_n hx hb dX4_commute_11 rfl (lv_at hl 0 rfl) ?_
    refine va_get (D := D) (ci := 4) (v := .ref h) (C := RX4) (T := TX4) (N := 7) hx hb hts nX4_commute_X4 hown hK hP 0 rfl rfl 2 (by decide) (hts _ kX4_commute_28) (fun _ h9 => h9) rfl dX4_commute_12 ?_
    refine lv_iload_n hx hb dX4_commute_15 rfl (lv_at hl 2 rfl) ?_
    refine callVO (n := 1) (As := [.int (iI (y))]) (rest := []) (wc := [(h, .inr (0, [.ref a1, .ref a2, .ref a3, .int (iI ((tt : Nat) : Int)), .ref a4, .int (iI ((ln : Nat) : Int)), .ref a5, .int (iI ((ed : Nat) : Int)), .int (iI ((es : Nat) : Int)), .int (iI ((ac : Nat) : Int)), .int (iI ((cu : Nat) : Int))]))]) S (c_hasEdit l D cI cB cZ cO h a1 a2 a3 a4 a5 tt ln ed es ac cu y (by first | assumption | (omega)) (by first | assumption | (omega))) gX4_commute_X0_hasEdit rfl ⟨rfl, rfl⟩ (by decide +kernel) ⟨Nat.le_of_ble_eq_true rfl, Nat.le_of_ble_eq_true rfl⟩ hE hP [1] rfl 0 0 rfl rfl rfl hl.1 rfl (Nat.le_of_ble_eq_true rfl) dX4_commute_16 ⟨Nat.le_of_ble_eq_true rfl, Nat.le_of_ble_eq_true rfl⟩ ?_
    refine r_ifb_eq (tgt := 27) hx hb dX4_commute_19 (by decide) (fun c_2 => ?_) (fun c_2 => ?_)
    · skip
      refine r_iconst hx hb dX4_commute_27 ?_
      exact r_iretO hx hb hr hlocks (rfl) dX4_commute_28
    · skip
      refine lv_iload_n hx hb dX4_commute_22 rfl (lv_at hl 1 rfl) ?_
      refine lv_iload_n hx hb dX4_commute_23 rfl (lv_at hl 2 rfl) ?_
      refine r_icmp_ne (tgt := 29) hx hb (by omega) (by omega) dX4_commute_24 (by decide) (fun c_3 => ?_) (fun c_3 => ?_)
      · skip
        exfalso; omega
      · skip
        refine r_iconst hx hb dX4_commute_27 ?_
        exact r_iretO hx hb hr hlocks (rfl) dX4_commute_28

set_option maxHeartbeats 4000000 in
set_option maxRecDepth 100000 in
theorem p_commute (l : Launch) (D : va_G) (cI cB cZ cO : ClassId) (xp : Nat) (xc : Nat) (xs : Nat) (xq : Nat) (xl : Nat) (ag : Nat) (di : Nat) (h : Nat) (a1 : Nat) (a2 : Nat) (a3 : Nat) (a4 : Nat) (a5 : Nat) (tt : Nat) (ln : Nat) (ed : Nat) (es : Nat) (ac : Nat) (cu : Nat) (ba : Nat → Nat) (e1 : Nat) (e2 : Nat) (hed : ed ≤ 16) (he1 : e1 < ed) (hba : ∀ k, ba k < 65536) (he2 : e2 < ed) (hne : ¬ e1 = e2) : Met l yX4_commute wsX4_commute ({ frames := 3, cells := 0, slots := 0, locals := 64 }) (va_Pc [.ref xp, .int (iI ((e1 : Nat) : Int)), .int (iI ((e2 : Nat) : Int))] (RO D cI cB cZ cO [(xp, .inr (4, [.ref xc, .ref xs, .ref h, .ref xq, .ref xl, .int (iI ((ag : Nat) : Int)), .int (iI ((di : Nat) : Int))])), (h, .inr (0, [.ref a1, .ref a2, .ref a3, .int (iI ((tt : Nat) : Int)), .ref a4, .int (iI ((ln : Nat) : Int)), .ref a5, .int (iI ((ed : Nat) : Int)), .int (iI ((es : Nat) : Int)), .int (iI ((ac : Nat) : Int)), .int (iI ((cu : Nat) : Int))])), (a5, .inl (cI, 16, .inl (rN (ba))))])) (QO (bI (fre ba e1 e2))) 0 0 (fun _ => False) := by
  refine startO (cc := cX4_commute) (maxL := 3) (ret := (some .int)) (by decide) rfl (Nat.le_of_ble_eq_true rfl) ?_
  intro p e s m below meth c S hr hlocks hE hP ls hl
  have hx := S.1
  have hb := S.2.1
  have hown := S.2.2.2.1
  have hts := S.2.2.2.2
  have hK := hE.1
  have hl : lv_has ls 3 [(0, .ref xp), (1, .int (iI ((e1 : Nat) : Int))), (2, .int (iI ((e2 : Nat) : Int)))] := hl
  refine lv_aload_n hx hb dX4_commute_0 rfl (lv_at hl 0 rfl) ?_
  refine va_get (D := D) (ci := 4) (v := .ref h) (C := RX4) (T := TX4) (N := 7) hx hb hts nX4_commute_X4 hown hK hP 0 rfl rfl 2 (by decide) (hts _ kX4_commute_28) (fun _ h9 => h9) rfl dX4_commute_1 ?_
  refine lv_iload_n hx hb dX4_commute_4 rfl (lv_at hl 1 rfl) ?_
  refine callVO (n := 1) (As := [.int (iI ((e1 : Nat) : Int))]) (rest := []) (wc := [(h, .inr (0, [.ref a1, .ref a2, .ref a3, .int (iI ((tt : Nat) : Int)), .ref a4, .int (iI ((ln : Nat) : Int)), .ref a5, .int (iI ((ed : Nat) : Int)), .int (iI ((es : Nat) : Int)), .int (iI ((ac : Nat) : Int)), .int (iI ((cu : Nat) : Int))]))]) S (c_hasEdit l D cI cB cZ cO h a1 a2 a3 a4 a5 tt ln ed es ac cu (((e1 : Nat) : Int)) (by first | assumption | (first | omega | assumption)) (by first | assumption | (first | omega | assumption))) gX4_commute_X0_hasEdit rfl ⟨rfl, rfl⟩ (by decide +kernel) ⟨Nat.le_of_ble_eq_true rfl, Nat.le_of_ble_eq_true rfl⟩ hE hP [1] rfl 0 0 rfl rfl rfl hl.1 rfl (Nat.le_of_ble_eq_true rfl) dX4_commute_5 ⟨Nat.le_of_ble_eq_true rfl, Nat.le_of_ble_eq_true rfl⟩ ?_
  refine r_ifb_eq (tgt := 27) hx hb dX4_commute_8 (by decide) (fun c_1 => ?_) (fun c_1 => ?_)
  · skip
    exfalso; omega
  · skip
    refine lv_aload_n hx hb dX4_commute_11 rfl (lv_at hl 0 rfl) ?_
    refine va_get (D := D) (ci := 4) (v := .ref h) (C := RX4) (T := TX4) (N := 7) hx hb hts nX4_commute_X4 hown hK hP 0 rfl rfl 2 (by decide) (hts _ kX4_commute_28) (fun _ h9 => h9) rfl dX4_commute_12 ?_
    refine lv_iload_n hx hb dX4_commute_15 rfl (lv_at hl 2 rfl) ?_
    refine callVO (n := 1) (As := [.int (iI ((e2 : Nat) : Int))]) (rest := []) (wc := [(h, .inr (0, [.ref a1, .ref a2, .ref a3, .int (iI ((tt : Nat) : Int)), .ref a4, .int (iI ((ln : Nat) : Int)), .ref a5, .int (iI ((ed : Nat) : Int)), .int (iI ((es : Nat) : Int)), .int (iI ((ac : Nat) : Int)), .int (iI ((cu : Nat) : Int))]))]) S (c_hasEdit l D cI cB cZ cO h a1 a2 a3 a4 a5 tt ln ed es ac cu (((e2 : Nat) : Int)) (by first | assumption | (first | omega | assumption)) (by first | assumption | (first | omega | assumption))) gX4_commute_X0_hasEdit rfl ⟨rfl, rfl⟩ (by decide +kernel) ⟨Nat.le_of_ble_eq_true rfl, Nat.le_of_ble_eq_true rfl⟩ hE hP [1] rfl 0 0 rfl rfl rfl hl.1 rfl (Nat.le_of_ble_eq_true rfl) dX4_commute_16 ⟨Nat.le_of_ble_eq_true rfl, Nat.le_of_ble_eq_true rfl⟩ ?_
    refine r_ifb_eq (tgt := 27) hx hb dX4_commute_19 (by decide) (fun c_2 => ?_) (fun c_2 => ?_)
    · skip
      exfalso; omega
    · skip
      refine lv_iload_n hx hb dX4_commute_22 rfl (lv_at hl 1 rfl) ?_
      refine lv_iload_n hx hb dX4_commute_23 rfl (lv_at hl 2 rfl) ?_
      refine r_icmp_ne (tgt := 29) hx hb (by first | omega | assumption) (by first | omega | assumption) dX4_commute_24 (by decide) (fun c_3 => ?_) (fun c_3 => ?_)
      · skip
        refine lv_aload_n hx hb dX4_commute_29 rfl (lv_at hl 0 rfl) ?_
        refine va_get (D := D) (ci := 4) (v := .ref h) (C := RX4) (T := TX4) (N := 7) hx hb hts nX4_commute_X4 hown hK hP 0 rfl rfl 2 (by decide) (hts _ kX4_commute_28) (fun _ h9 => h9) rfl dX4_commute_30 ?_
        refine lv_iload_n hx hb dX4_commute_33 rfl (lv_at hl 1 rfl) ?_
        refine lv_iload_n hx hb dX4_commute_34 rfl (lv_at hl 2 rfl) ?_
        refine callVO (n := 2) (As := [.int (iI ((e1 : Nat) : Int)), .int (iI ((e2 : Nat) : Int))]) (rest := []) (wc := [(h, .inr (0, [.ref a1, .ref a2, .ref a3, .int (iI ((tt : Nat) : Int)), .ref a4, .int (iI ((ln : Nat) : Int)), .ref a5, .int (iI ((ed : Nat) : Int)), .int (iI ((es : Nat) : Int)), .int (iI ((ac : Nat) : Int)), .int (iI ((cu : Nat) : Int))])), (a5, .inl (cI, 16, .inl (rN (ba))))]) S (c_areFree l D cI cB cZ cO h a1 a2 a3 a4 a5 tt ln ed es ac cu ba e1 e2 (by first | assumption | (first | omega | assumption)) (by first | assumption | (first | omega | assumption)) (by first | assumption | (first | omega | assumption)) (by first | assumption | (first | omega | assumption))) gX4_commute_X0_areFree rfl ⟨rfl, rfl⟩ (by decide +kernel) ⟨Nat.le_of_ble_eq_true rfl, Nat.le_of_ble_eq_true rfl⟩ hE hP [1, 2] rfl 0 0 rfl rfl rfl hl.1 rfl (Nat.le_of_ble_eq_true rfl) dX4_commute_35 ⟨Nat.le_of_ble_eq_true rfl, Nat.le_of_ble_eq_true rfl⟩ ?_
        refine r_ifb_eq (tgt := 45) hx hb dX4_commute_38 (by decide) (fun c_4 => ?_) (fun c_4 => ?_)
        · skip
          refine r_iconst hx hb dX4_commute_45 ?_
          exact r_iretO hx hb hr hlocks ((bI_f (by first | omega | assumption)).symm) dX4_commute_46
        · skip
          refine r_iconst hx hb dX4_commute_41 ?_
          refine lv_goto (tgt := 46) hx hb dX4_commute_42 (by decide) ?_
          exact r_iretO hx hb hr hlocks ((bI_t (by first | omega | assumption)).symm) dX4_commute_46
      · skip
        exfalso; omega

theorem kX4_closure_28 : Cond.fieldLink RX4 28 "PricedUndo" "buffer" "LPricedUndo$Buffer;" ∈ wsX4_closure := by decide +kernel
theorem nX4_closure_X4 : ∀ w ∈ u_ws RX4 TX4 7, w ∈ wsX4_closure := by decide +kernel
set_option maxHeartbeats 4000000 in
set_option maxRecDepth 100000 in
theorem p_closure_bad (l : Launch) (D : va_G) (cI cB cZ cO : ClassId) (xp : Nat) (xc : Nat) (xs : Nat) (xq : Nat) (xl : Nat) (ag : Nat) (di : Nat) (h : Nat) (a1 : Nat) (a2 : Nat) (a3 : Nat) (a4 : Nat) (a5 : Nat) (tt : Nat) (ln : Nat) (ed : Nat) (es : Nat) (ac : Nat) (cu : Nat) (x : Int) (hed : ed ≤ 16) (rx : rg x) (hbad : ¬ (0 ≤ x ∧ x < (ed : Int))) : Met l yX4_closure wsX4_closure ({ frames := 1, cells := 0, slots := 0, locals := 21 }) (va_Pc [.ref xp, .int (iI (x))] (RO D cI cB cZ cO [(xp, .inr (4, [.ref xc, .ref xs, .ref h, .ref xq, .ref xl, .int (iI ((ag : Nat) : Int)), .int (iI ((di : Nat) : Int))])), (h, .inr (0, [.ref a1, .ref a2, .ref a3, .int (iI ((tt : Nat) : Int)), .ref a4, .int (iI ((ln : Nat) : Int)), .ref a5, .int (iI ((ed : Nat) : Int)), .int (iI ((es : Nat) : Int)), .int (iI ((ac : Nat) : Int)), .int (iI ((cu : Nat) : Int))]))])) (QO (-1)) 0 0 (fun _ => False) := by
  refine startO (cc := cX4_closure) (maxL := 2) (ret := (some .int)) (by decide) rfl (Nat.le_of_ble_eq_true rfl) ?_
  intro p e s m below meth c S hr hlocks hE hP ls hl
  have hx := S.1
  have hb := S.2.1
  have hown := S.2.2.2.1
  have hts := S.2.2.2.2
  have hK := hE.1
  have hl : lv_has ls 2 [(0, .ref xp), (1, .int (iI (x)))] := hl
  refine lv_aload_n hx hb dX4_closure_0 rfl (lv_at hl 0 rfl) ?_
  refine va_get (D := D) (ci := 4) (v := .ref h) (C := RX4) (T := TX4) (N := 7) hx hb hts nX4_closure_X4 hown hK hP 0 rfl rfl 2 (by decide) (hts _ kX4_closure_28) (fun _ h9 => h9) rfl dX4_closure_1 ?_
  refine lv_iload_n hx hb dX4_closure_4 rfl (lv_at hl 1 rfl) ?_
  refine callVO (n := 1) (As := [.int (iI (x))]) (rest := []) (wc := [(h, .inr (0, [.ref a1, .ref a2, .ref a3, .int (iI ((tt : Nat) : Int)), .ref a4, .int (iI ((ln : Nat) : Int)), .ref a5, .int (iI ((ed : Nat) : Int)), .int (iI ((es : Nat) : Int)), .int (iI ((ac : Nat) : Int)), .int (iI ((cu : Nat) : Int))]))]) S (c_hasEdit l D cI cB cZ cO h a1 a2 a3 a4 a5 tt ln ed es ac cu x (by first | assumption | (omega)) (by first | assumption | (omega))) gX4_closure_X0_hasEdit rfl ⟨rfl, rfl⟩ (by decide +kernel) ⟨Nat.le_of_ble_eq_true rfl, Nat.le_of_ble_eq_true rfl⟩ hE hP [1] rfl 0 0 rfl rfl rfl hl.1 rfl (Nat.le_of_ble_eq_true rfl) dX4_closure_5 ⟨Nat.le_of_ble_eq_true rfl, Nat.le_of_ble_eq_true rfl⟩ ?_
  refine r_ifb_ne (tgt := 13) hx hb dX4_closure_8 (by decide) (fun c_1 => ?_) (fun c_1 => ?_)
  · skip
    exfalso; exact hbad (by assumption)
  · skip
    refine r_iconst hx hb dX4_closure_11 ?_
    exact r_iretO hx hb hr hlocks (rfl) dX4_closure_12

theorem nX4_closure_X0 : ∀ w ∈ u_ws RX0 TX0 11, w ∈ wsX4_closure := by decide +kernel
set_option maxHeartbeats 4000000 in
set_option maxRecDepth 100000 in
theorem p_closure_no (l : Launch) (D : va_G) (cI cB cZ cO : ClassId) (xp : Nat) (xc : Nat) (xs : Nat) (xq : Nat) (xl : Nat) (ag : Nat) (di : Nat) (h : Nat) (a1 : Nat) (a2 : Nat) (a3 : Nat) (a4 : Nat) (a5 : Nat) (tt : Nat) (ln : Nat) (ed : Nat) (es : Nat) (ac : Nat) (cu : Nat) (e1 : Nat) (hed : ed ≤ 16) (he1 : e1 < ed) (hac : ac < 65536) (hna : ¬ ac.testBit e1 = true) : Met l yX4_closure wsX4_closure ({ frames := 1, cells := 0, slots := 0, locals := 21 }) (va_Pc [.ref xp, .int (iI ((e1 : Nat) : Int))] (RO D cI cB cZ cO [(xp, .inr (4, [.ref xc, .ref xs, .ref h, .ref xq, .ref xl, .int (iI ((ag : Nat) : Int)), .int (iI ((di : Nat) : Int))])), (h, .inr (0, [.ref a1, .ref a2, .ref a3, .int (iI ((tt : Nat) : Int)), .ref a4, .int (iI ((ln : Nat) : Int)), .ref a5, .int (iI ((ed : Nat) : Int)), .int (iI ((es : Nat) : Int)), .int (iI ((ac : Nat) : Int)), .int (iI ((cu : Nat) : Int))]))])) (QO (-2)) 0 0 (fun _ => False) := by
  refine startO (cc := cX4_closure) (maxL := 2) (ret := (some .int)) (by decide) rfl (Nat.le_of_ble_eq_true rfl) ?_
  intro p e s m below meth c S hr hlocks hE hP ls hl
  have hx := S.1
  have hb := S.2.1
  have hown := S.2.2.2.1
  have hts := S.2.2.2.2
  have hK := hE.1
  have hl : lv_has ls 2 [(0, .ref xp), (1, .int (iI ((e1 : Nat) : Int)))] := hl
  refine lv_aload_n hx hb dX4_closure_0 rfl (lv_at hl 0 rfl) ?_
  refine va_get (D := D) (ci := 4) (v := .ref h) (C := RX4) (T := TX4) (N := 7) hx hb hts nX4_closure_X4 hown hK hP 0 rfl rfl 2 (by decide) (hts _ kX4_closure_28) (fun _ h9 => h9) rfl dX4_closure_1 ?_
  refine lv_iload_n hx hb dX4_closure_4 rfl (lv_at hl 1 rfl) ?_
  refine callVO (n := 1) (As := [.int (iI ((e1 : Nat) : Int))]) (rest := []) (wc := [(h, .inr (0, [.ref a1, .ref a2, .ref a3, .int (iI ((tt : Nat) : Int)), .ref a4, .int (iI ((ln : Nat) : Int)), .ref a5, .int (iI ((ed : Nat) : Int)), .int (iI ((es : Nat) : Int)), .int (iI ((ac : Nat) : Int)), .int (iI ((cu : Nat) : Int))]))]) S (c_hasEdit l D cI cB cZ cO h a1 a2 a3 a4 a5 tt ln ed es ac cu (((e1 : Nat) : Int)) (by first | assumption | (omega)) (by first | assumption | (omega))) gX4_closure_X0_hasEdit rfl ⟨rfl, rfl⟩ (by decide +kernel) ⟨Nat.le_of_ble_eq_true rfl, Nat.le_of_ble_eq_true rfl⟩ hE hP [1] rfl 0 0 rfl rfl rfl hl.1 rfl (Nat.le_of_ble_eq_true rfl) dX4_closure_5 ⟨Nat.le_of_ble_eq_true rfl, Nat.le_of_ble_eq_true rfl⟩ ?_
  refine r_ifb_ne (tgt := 13) hx hb dX4_closure_8 (by decide) (fun c_1 => ?_) (fun c_1 => ?_)
  · skip
    refine lv_aload_n hx hb dX4_closure_13 rfl (lv_at hl 0 rfl) ?_
    refine va_get (D := D) (ci := 4) (v := .ref h) (C := RX4) (T := TX4) (N := 7) hx hb hts nX4_closure_X4 hown hK hP 0 rfl rfl 2 (by decide) (hts _ kX4_closure_28) (fun _ h9 => h9) rfl dX4_closure_14 ?_
    refine va_getN (D := D) (ci := 0) (v := .int (iI ((ac : Nat) : Int))) (C := RX0) (T := TX0) (N := 11) hx hb hts nX4_closure_X0 hown hK hP 1 rfl rfl 9 (by decide) (va_Nw.use rfl (hE.2.f 19 rfl)) (fun _ h9 => h9) rfl dX4_closure_17 ?_
    refine lv_iload_n hx hb dX4_closure_20 rfl (lv_at hl 1 rfl) ?_
    refine callSO (n := 2) (As := [.int (iI ((ac : Nat) : Int)), .int (iI ((e1 : Nat) : Int))]) (rest := []) (wc := []) S (c_has l D cI cB cZ cO ac e1 (by first | assumption | (omega)) (by first | assumption | (omega))) gX4_closure_X4_has rfl ⟨rfl, rfl⟩ (by decide +kernel) ⟨Nat.le_of_ble_eq_true rfl, Nat.le_of_ble_eq_true rfl⟩ hE hP [] rfl rfl hl.1 rfl (Nat.le_of_ble_eq_true rfl) dX4_closure_21 ⟨Nat.le_of_ble_eq_true rfl, Nat.le_of_ble_eq_true rfl⟩ ?_
    refine r_ifb_ne (tgt := 30) hx hb dX4_closure_24 (by decide) (fun c_2 => ?_) (fun c_2 => ?_)
    · skip
      exfalso; exact hna (by assumption)
    · skip
      refine r_bipush hx hb dX4_closure_27 (by decide) ?_
      exact r_iretO hx hb hr hlocks (rfl) dX4_closure_29
  · skip
    exfalso; omega

set_option maxHeartbeats 4000000 in
set_option maxRecDepth 100000 in
theorem p_closure (l : Launch) (D : va_G) (cI cB cZ cO : ClassId) (xp : Nat) (xc : Nat) (xs : Nat) (xq : Nat) (xl : Nat) (ag : Nat) (di : Nat) (h : Nat) (a1 : Nat) (a2 : Nat) (a3 : Nat) (a4 : Nat) (a5 : Nat) (tt : Nat) (ln : Nat) (ed : Nat) (es : Nat) (ac : Nat) (cu : Nat) (ba : Nat → Nat) (e1 : Nat) (hed : ed ≤ 16) (he1 : e1 < ed) (hac : ac < 65536) (hba : ∀ k, ba k < 65536) (hna : ac.testBit e1 = true) : Met l yX4_closure wsX4_closure ({ frames := 3, cells := 0, slots := 0, locals := 64 }) (va_Pc [.ref xp, .int (iI ((e1 : Nat) : Int))] (RO D cI cB cZ cO [(xp, .inr (4, [.ref xc, .ref xs, .ref h, .ref xq, .ref xl, .int (iI ((ag : Nat) : Int)), .int (iI ((di : Nat) : Int))])), (h, .inr (0, [.ref a1, .ref a2, .ref a3, .int (iI ((tt : Nat) : Int)), .ref a4, .int (iI ((ln : Nat) : Int)), .ref a5, .int (iI ((ed : Nat) : Int)), .int (iI ((es : Nat) : Int)), .int (iI ((ac : Nat) : Int)), .int (iI ((cu : Nat) : Int))])), (a5, .inl (cI, 16, .inl (rN (ba))))])) (QO ((2 ^ e1 ||| (dep ba ed (2 ^ e1) &&& ac) : Nat) : Int)) 0 0 (fun _ => False) := by
  refine startO (cc := cX4_closure) (maxL := 2) (ret := (some .int)) (by decide) rfl (Nat.le_of_ble_eq_true rfl) ?_
  intro p e s m below meth c S hr hlocks hE hP ls hl
  have hx := S.1
  have hb := S.2.1
  have hown := S.2.2.2.1
  have hts := S.2.2.2.2
  have hK := hE.1
  have hl : lv_has ls 2 [(0, .ref xp), (1, .int (iI ((e1 : Nat) : Int)))] := hl
  refine lv_aload_n hx hb dX4_closure_0 rfl (lv_at hl 0 rfl) ?_
  refine va_get (D := D) (ci := 4) (v := .ref h) (C := RX4) (T := TX4) (N := 7) hx hb hts nX4_closure_X4 hown hK hP 0 rfl rfl 2 (by decide) (hts _ kX4_closure_28) (fun _ h9 => h9) rfl dX4_closure_1 ?_
  refine lv_iload_n hx hb dX4_closure_4 rfl (lv_at hl 1 rfl) ?_
  refine callVO (n := 1) (As := [.int (iI ((e1 : Nat) : Int))]) (rest := []) (wc := [(h, .inr (0, [.ref a1, .ref a2, .ref a3, .int (iI ((tt : Nat) : Int)), .ref a4, .int (iI ((ln : Nat) : Int)), .ref a5, .int (iI ((ed : Nat) : Int)), .int (iI ((es : Nat) : Int)), .int (iI ((ac : Nat) : Int)), .int (iI ((cu : Nat) : Int))]))]) S (c_hasEdit l D cI cB cZ cO h a1 a2 a3 a4 a5 tt ln ed es ac cu (((e1 : Nat) : Int)) (by first | assumption | (omega)) (by first | assumption | (omega))) gX4_closure_X0_hasEdit rfl ⟨rfl, rfl⟩ (by decide +kernel) ⟨Nat.le_of_ble_eq_true rfl, Nat.le_of_ble_eq_true rfl⟩ hE hP [1] rfl 0 0 rfl rfl rfl hl.1 rfl (Nat.le_of_ble_eq_true rfl) dX4_closure_5 ⟨Nat.le_of_ble_eq_true rfl, Nat.le_of_ble_eq_true rfl⟩ ?_
  refine r_ifb_ne (tgt := 13) hx hb dX4_closure_8 (by decide) (fun c_1 => ?_) (fun c_1 => ?_)
  · skip
    refine lv_aload_n hx hb dX4_closure_13 rfl (lv_at hl 0 rfl) ?_
    refine va_get (D := D) (ci := 4) (v := .ref h) (C := RX4) (T := TX4) (N := 7) hx hb hts nX4_closure_X4 hown hK hP 0 rfl rfl 2 (by decide) (hts _ kX4_closure_28) (fun _ h9 => h9) rfl dX4_closure_14 ?_
    refine va_getN (D := D) (ci := 0) (v := .int (iI ((ac : Nat) : Int))) (C := RX0) (T := TX0) (N := 11) hx hb hts nX4_closure_X0 hown hK hP 1 rfl rfl 9 (by decide) (va_Nw.use rfl (hE.2.f 19 rfl)) (fun _ h9 => h9) rfl dX4_closure_17 ?_
    refine lv_iload_n hx hb dX4_closure_20 rfl (lv_at hl 1 rfl) ?_
    refine callSO (n := 2) (As := [.int (iI ((ac : Nat) : Int)), .int (iI ((e1 : Nat) : Int))]) (rest := []) (wc := []) S (c_has l D cI cB cZ cO ac e1 (by first | assumption | (omega)) (by first | assumption | (omega))) gX4_closure_X4_has rfl ⟨rfl, rfl⟩ (by decide +kernel) ⟨Nat.le_of_ble_eq_true rfl, Nat.le_of_ble_eq_true rfl⟩ hE hP [] rfl rfl hl.1 rfl (Nat.le_of_ble_eq_true rfl) dX4_closure_21 ⟨Nat.le_of_ble_eq_true rfl, Nat.le_of_ble_eq_true rfl⟩ ?_
    refine r_ifb_ne (tgt := 30) hx hb dX4_closure_24 (by decide) (fun c_2 => ?_) (fun c_2 => ?_)
    · skip
      refine lv_aload_n hx hb dX4_closure_30 rfl (lv_at hl 0 rfl) ?_
      refine va_get (D := D) (ci := 4) (v := .ref h) (C := RX4) (T := TX4) (N := 7) hx hb hts nX4_closure_X4 hown hK hP 0 rfl rfl 2 (by decide) (hts _ kX4_closure_28) (fun _ h9 => h9) rfl dX4_closure_31 ?_
      refine lv_iload_n hx hb dX4_closure_34 rfl (lv_at hl 1 rfl) ?_
      refine callSO (n := 1) (As := [.int (iI ((e1 : Nat) : Int))]) (rest := [.ref h]) (wc := []) S (c_single l D cI cB cZ cO e1 (by first | assumption | (omega))) gX4_closure_X4_single rfl ⟨rfl, rfl⟩ (by decide +kernel) ⟨Nat.le_of_ble_eq_true rfl, Nat.le_of_ble_eq_true rfl⟩ hE hP [] rfl rfl hl.1 rfl (Nat.le_of_ble_eq_true rfl) dX4_closure_35 ⟨Nat.le_of_ble_eq_true rfl, Nat.le_of_ble_eq_true rfl⟩ ?_
      refine callVO (n := 1) (As := [.int (iI ((2 ^ e1 : Nat) : Int))]) (rest := []) (wc := [(h, .inr (0, [.ref a1, .ref a2, .ref a3, .int (iI ((tt : Nat) : Int)), .ref a4, .int (iI ((ln : Nat) : Int)), .ref a5, .int (iI ((ed : Nat) : Int)), .int (iI ((es : Nat) : Int)), .int (iI ((ac : Nat) : Int)), .int (iI ((cu : Nat) : Int))])), (a5, .inl (cI, 16, .inl (rN (ba))))]) S (c_withActiveDependents l D cI cB cZ cO h a1 a2 a3 a4 a5 tt ln ed es ac cu ba (2 ^ e1) (by first | assumption | (omega)) (by first | assumption | (omega))) gX4_closure_X0_withActiveDependents rfl ⟨rfl, rfl⟩ (by decide +kernel) ⟨Nat.le_of_ble_eq_true rfl, Nat.le_of_ble_eq_true rfl⟩ hE hP [1, 2] rfl 0 0 rfl rfl rfl hl.1 rfl (Nat.le_of_ble_eq_true rfl) dX4_closure_38 ⟨Nat.le_of_ble_eq_true rfl, Nat.le_of_ble_eq_true rfl⟩ ?_
      exact r_iretO hx hb hr hlocks (by omega) dX4_closure_41
    · skip
      exfalso; exact absurd hna (by assumption)
  · skip
    exfalso; omega

theorem kX4_opening_28 : Cond.fieldLink RX4 28 "PricedUndo" "buffer" "LPricedUndo$Buffer;" ∈ wsX4_opening := by decide +kernel
theorem nX4_opening_X4 : ∀ w ∈ u_ws RX4 TX4 7, w ∈ wsX4_opening := by decide +kernel
set_option maxHeartbeats 4000000 in
set_option maxRecDepth 100000 in
theorem p_opening_bad (l : Launch) (D : va_G) (cI cB cZ cO : ClassId) (xp : Nat) (xc : Nat) (xs : Nat) (xq : Nat) (xl : Nat) (ag : Nat) (di : Nat) (h : Nat) (a1 : Nat) (a2 : Nat) (a3 : Nat) (a4 : Nat) (a5 : Nat) (tt : Nat) (ln : Nat) (ed : Nat) (es : Nat) (ac : Nat) (cu : Nat) (x : Int) (hed : ed ≤ 16) (rx : rg x) (hbad : ¬ (0 ≤ x ∧ x < (ed : Int))) : Met l yX4_opening wsX4_opening ({ frames := 1, cells := 0, slots := 0, locals := 21 }) (va_Pc [.ref xp, .int (iI (x))] (RO D cI cB cZ cO [(xp, .inr (4, [.ref xc, .ref xs, .ref h, .ref xq, .ref xl, .int (iI ((ag : Nat) : Int)), .int (iI ((di : Nat) : Int))])), (h, .inr (0, [.ref a1, .ref a2, .ref a3, .int (iI ((tt : Nat) : Int)), .ref a4, .int (iI ((ln : Nat) : Int)), .ref a5, .int (iI ((ed : Nat) : Int)), .int (iI ((es : Nat) : Int)), .int (iI ((ac : Nat) : Int)), .int (iI ((cu : Nat) : Int))]))])) (QO (-1)) 0 0 (fun _ => False) := by
  refine startO (cc := cX4_opening) (maxL := 2) (ret := (some .int)) (by decide) rfl (Nat.le_of_ble_eq_true rfl) ?_
  intro p e s m below meth c S hr hlocks hE hP ls hl
  have hx := S.1
  have hb := S.2.1
  have hown := S.2.2.2.1
  have hts := S.2.2.2.2
  have hK := hE.1
  have hl : lv_has ls 2 [(0, .ref xp), (1, .int (iI (x)))] := hl
  refine lv_aload_n hx hb dX4_opening_0 rfl (lv_at hl 0 rfl) ?_
  refine va_get (D := D) (ci := 4) (v := .ref h) (C := RX4) (T := TX4) (N := 7) hx hb hts nX4_opening_X4 hown hK hP 0 rfl rfl 2 (by decide) (hts _ kX4_opening_28) (fun _ h9 => h9) rfl dX4_opening_1 ?_
  refine lv_iload_n hx hb dX4_opening_4 rfl (lv_at hl 1 rfl) ?_
  refine callVO (n := 1) (As := [.int (iI (x))]) (rest := []) (wc := [(h, .inr (0, [.ref a1, .ref a2, .ref a3, .int (iI ((tt : Nat) : Int)), .ref a4, .int (iI ((ln : Nat) : Int)), .ref a5, .int (iI ((ed : Nat) : Int)), .int (iI ((es : Nat) : Int)), .int (iI ((ac : Nat) : Int)), .int (iI ((cu : Nat) : Int))]))]) S (c_hasEdit l D cI cB cZ cO h a1 a2 a3 a4 a5 tt ln ed es ac cu x (by first | assumption | (omega)) (by first | assumption | (omega))) gX4_opening_X0_hasEdit rfl ⟨rfl, rfl⟩ (by decide +kernel) ⟨Nat.le_of_ble_eq_true rfl, Nat.le_of_ble_eq_true rfl⟩ hE hP [1] rfl 0 0 rfl rfl rfl hl.1 rfl (Nat.le_of_ble_eq_true rfl) dX4_opening_5 ⟨Nat.le_of_ble_eq_true rfl, Nat.le_of_ble_eq_true rfl⟩ ?_
  refine r_ifb_ne (tgt := 13) hx hb dX4_opening_8 (by decide) (fun c_1 => ?_) (fun c_1 => ?_)
  · skip
    exfalso; exact hbad (by assumption)
  · skip
    refine r_iconst hx hb dX4_opening_11 ?_
    exact r_iretO hx hb hr hlocks (rfl) dX4_opening_12

theorem nX4_opening_X0 : ∀ w ∈ u_ws RX0 TX0 11, w ∈ wsX4_opening := by decide +kernel
set_option maxHeartbeats 4000000 in
set_option maxRecDepth 100000 in
theorem p_opening_no (l : Launch) (D : va_G) (cI cB cZ cO : ClassId) (xp : Nat) (xc : Nat) (xs : Nat) (xq : Nat) (xl : Nat) (ag : Nat) (di : Nat) (h : Nat) (a1 : Nat) (a2 : Nat) (a3 : Nat) (a4 : Nat) (a5 : Nat) (tt : Nat) (ln : Nat) (ed : Nat) (es : Nat) (ac : Nat) (cu : Nat) (e1 : Nat) (hed : ed ≤ 16) (he1 : e1 < ed) (hac : ac < 65536) (hna : ac.testBit e1 = true) : Met l yX4_opening wsX4_opening ({ frames := 1, cells := 0, slots := 0, locals := 21 }) (va_Pc [.ref xp, .int (iI ((e1 : Nat) : Int))] (RO D cI cB cZ cO [(xp, .inr (4, [.ref xc, .ref xs, .ref h, .ref xq, .ref xl, .int (iI ((ag : Nat) : Int)), .int (iI ((di : Nat) : Int))])), (h, .inr (0, [.ref a1, .ref a2, .ref a3, .int (iI ((tt : Nat) : Int)), .ref a4, .int (iI ((ln : Nat) : Int)), .ref a5, .int (iI ((ed : Nat) : Int)), .int (iI ((es : Nat) : Int)), .int (iI ((ac : Nat) : Int)), .int (iI ((cu : Nat) : Int))]))])) (QO (-2)) 0 0 (fun _ => False) := by
  refine startO (cc := cX4_opening) (maxL := 2) (ret := (some .int)) (by decide) rfl (Nat.le_of_ble_eq_true rfl) ?_
  intro p e s m below meth c S hr hlocks hE hP ls hl
  have hx := S.1
  have hb := S.2.1
  have hown := S.2.2.2.1
  have hts := S.2.2.2.2
  have hK := hE.1
  have hl : lv_has ls 2 [(0, .ref xp), (1, .int (iI ((e1 : Nat) : Int)))] := hl
  refine lv_aload_n hx hb dX4_opening_0 rfl (lv_at hl 0 rfl) ?_
  refine va_get (D := D) (ci := 4) (v := .ref h) (C := RX4) (T := TX4) (N := 7) hx hb hts nX4_opening_X4 hown hK hP 0 rfl rfl 2 (by decide) (hts _ kX4_opening_28) (fun _ h9 => h9) rfl dX4_opening_1 ?_
  refine lv_iload_n hx hb dX4_opening_4 rfl (lv_at hl 1 rfl) ?_
  refine callVO (n := 1) (As := [.int (iI ((e1 : Nat) : Int))]) (rest := []) (wc := [(h, .inr (0, [.ref a1, .ref a2, .ref a3, .int (iI ((tt : Nat) : Int)), .ref a4, .int (iI ((ln : Nat) : Int)), .ref a5, .int (iI ((ed : Nat) : Int)), .int (iI ((es : Nat) : Int)), .int (iI ((ac : Nat) : Int)), .int (iI ((cu : Nat) : Int))]))]) S (c_hasEdit l D cI cB cZ cO h a1 a2 a3 a4 a5 tt ln ed es ac cu (((e1 : Nat) : Int)) (by first | assumption | (omega)) (by first | assumption | (omega))) gX4_opening_X0_hasEdit rfl ⟨rfl, rfl⟩ (by decide +kernel) ⟨Nat.le_of_ble_eq_true rfl, Nat.le_of_ble_eq_true rfl⟩ hE hP [1] rfl 0 0 rfl rfl rfl hl.1 rfl (Nat.le_of_ble_eq_true rfl) dX4_opening_5 ⟨Nat.le_of_ble_eq_true rfl, Nat.le_of_ble_eq_true rfl⟩ ?_
  refine r_ifb_ne (tgt := 13) hx hb dX4_opening_8 (by decide) (fun c_1 => ?_) (fun c_1 => ?_)
  · skip
    refine lv_aload_n hx hb dX4_opening_13 rfl (lv_at hl 0 rfl) ?_
    refine va_get (D := D) (ci := 4) (v := .ref h) (C := RX4) (T := TX4) (N := 7) hx hb hts nX4_opening_X4 hown hK hP 0 rfl rfl 2 (by decide) (hts _ kX4_opening_28) (fun _ h9 => h9) rfl dX4_opening_14 ?_
    refine va_getN (D := D) (ci := 0) (v := .int (iI ((ac : Nat) : Int))) (C := RX0) (T := TX0) (N := 11) hx hb hts nX4_opening_X0 hown hK hP 1 rfl rfl 9 (by decide) (va_Nw.use rfl (hE.2.f 19 rfl)) (fun _ h9 => h9) rfl dX4_opening_17 ?_
    refine lv_iload_n hx hb dX4_opening_20 rfl (lv_at hl 1 rfl) ?_
    refine callSO (n := 2) (As := [.int (iI ((ac : Nat) : Int)), .int (iI ((e1 : Nat) : Int))]) (rest := []) (wc := []) S (c_has l D cI cB cZ cO ac e1 (by first | assumption | (omega)) (by first | assumption | (omega))) gX4_opening_X4_has rfl ⟨rfl, rfl⟩ (by decide +kernel) ⟨Nat.le_of_ble_eq_true rfl, Nat.le_of_ble_eq_true rfl⟩ hE hP [] rfl rfl hl.1 rfl (Nat.le_of_ble_eq_true rfl) dX4_opening_21 ⟨Nat.le_of_ble_eq_true rfl, Nat.le_of_ble_eq_true rfl⟩ ?_
    refine r_ifb_eq (tgt := 30) hx hb dX4_opening_24 (by decide) (fun c_2 => ?_) (fun c_2 => ?_)
    · skip
      exfalso; exact absurd hna (by assumption)
    · skip
      refine r_bipush hx hb dX4_opening_27 (by decide) ?_
      exact r_iretO hx hb hr hlocks (rfl) dX4_opening_29
  · skip
    exfalso; omega

set_option maxHeartbeats 4000000 in
set_option maxRecDepth 100000 in
theorem p_opening (l : Launch) (D : va_G) (cI cB cZ cO : ClassId) (xp : Nat) (xc : Nat) (xs : Nat) (xq : Nat) (xl : Nat) (ag : Nat) (di : Nat) (h : Nat) (a1 : Nat) (a2 : Nat) (a3 : Nat) (a4 : Nat) (a5 : Nat) (tt : Nat) (ln : Nat) (ed : Nat) (es : Nat) (ac : Nat) (cu : Nat) (ba : Nat → Nat) (e1 : Nat) (hed : ed ≤ 16) (he1 : e1 < ed) (hac : ac < 65536) (hna : ¬ ac.testBit e1 = true) : Met l yX4_opening wsX4_opening ({ frames := 2, cells := 0, slots := 0, locals := 42 }) (va_Pc [.ref xp, .int (iI ((e1 : Nat) : Int))] (RO D cI cB cZ cO [(xp, .inr (4, [.ref xc, .ref xs, .ref h, .ref xq, .ref xl, .int (iI ((ag : Nat) : Int)), .int (iI ((di : Nat) : Int))])), (h, .inr (0, [.ref a1, .ref a2, .ref a3, .int (iI ((tt : Nat) : Int)), .ref a4, .int (iI ((ln : Nat) : Int)), .ref a5, .int (iI ((ed : Nat) : Int)), .int (iI ((es : Nat) : Int)), .int (iI ((ac : Nat) : Int)), .int (iI ((cu : Nat) : Int))])), (a5, .inl (cI, 16, .inl (rN (ba))))])) (QO ((nd (2 ^ e1 ||| ba e1) ac : Nat) : Int)) 0 0 (fun _ => False) := by
  refine startO (cc := cX4_opening) (maxL := 2) (ret := (some .int)) (by decide) rfl (Nat.le_of_ble_eq_true rfl) ?_
  intro p e s m below meth c S hr hlocks hE hP ls hl
  have hx := S.1
  have hb := S.2.1
  have hown := S.2.2.2.1
  have hts := S.2.2.2.2
  have hK := hE.1
  have hl : lv_has ls 2 [(0, .ref xp), (1, .int (iI ((e1 : Nat) : Int)))] := hl
  refine lv_aload_n hx hb dX4_opening_0 rfl (lv_at hl 0 rfl) ?_
  refine va_get (D := D) (ci := 4) (v := .ref h) (C := RX4) (T := TX4) (N := 7) hx hb hts nX4_opening_X4 hown hK hP 0 rfl rfl 2 (by decide) (hts _ kX4_opening_28) (fun _ h9 => h9) rfl dX4_opening_1 ?_
  refine lv_iload_n hx hb dX4_opening_4 rfl (lv_at hl 1 rfl) ?_
  refine callVO (n := 1) (As := [.int (iI ((e1 : Nat) : Int))]) (rest := []) (wc := [(h, .inr (0, [.ref a1, .ref a2, .ref a3, .int (iI ((tt : Nat) : Int)), .ref a4, .int (iI ((ln : Nat) : Int)), .ref a5, .int (iI ((ed : Nat) : Int)), .int (iI ((es : Nat) : Int)), .int (iI ((ac : Nat) : Int)), .int (iI ((cu : Nat) : Int))]))]) S (c_hasEdit l D cI cB cZ cO h a1 a2 a3 a4 a5 tt ln ed es ac cu (((e1 : Nat) : Int)) (by first | assumption | (omega)) (by first | assumption | (omega))) gX4_opening_X0_hasEdit rfl ⟨rfl, rfl⟩ (by decide +kernel) ⟨Nat.le_of_ble_eq_true rfl, Nat.le_of_ble_eq_true rfl⟩ hE hP [1] rfl 0 0 rfl rfl rfl hl.1 rfl (Nat.le_of_ble_eq_true rfl) dX4_opening_5 ⟨Nat.le_of_ble_eq_true rfl, Nat.le_of_ble_eq_true rfl⟩ ?_
  refine r_ifb_ne (tgt := 13) hx hb dX4_opening_8 (by decide) (fun c_1 => ?_) (fun c_1 => ?_)
  · skip
    refine lv_aload_n hx hb dX4_opening_13 rfl (lv_at hl 0 rfl) ?_
    refine va_get (D := D) (ci := 4) (v := .ref h) (C := RX4) (T := TX4) (N := 7) hx hb hts nX4_opening_X4 hown hK hP 0 rfl rfl 2 (by decide) (hts _ kX4_opening_28) (fun _ h9 => h9) rfl dX4_opening_14 ?_
    refine va_getN (D := D) (ci := 0) (v := .int (iI ((ac : Nat) : Int))) (C := RX0) (T := TX0) (N := 11) hx hb hts nX4_opening_X0 hown hK hP 1 rfl rfl 9 (by decide) (va_Nw.use rfl (hE.2.f 19 rfl)) (fun _ h9 => h9) rfl dX4_opening_17 ?_
    refine lv_iload_n hx hb dX4_opening_20 rfl (lv_at hl 1 rfl) ?_
    refine callSO (n := 2) (As := [.int (iI ((ac : Nat) : Int)), .int (iI ((e1 : Nat) : Int))]) (rest := []) (wc := []) S (c_has l D cI cB cZ cO ac e1 (by first | assumption | (omega)) (by first | assumption | (omega))) gX4_opening_X4_has rfl ⟨rfl, rfl⟩ (by decide +kernel) ⟨Nat.le_of_ble_eq_true rfl, Nat.le_of_ble_eq_true rfl⟩ hE hP [] rfl rfl hl.1 rfl (Nat.le_of_ble_eq_true rfl) dX4_opening_21 ⟨Nat.le_of_ble_eq_true rfl, Nat.le_of_ble_eq_true rfl⟩ ?_
    refine r_ifb_eq (tgt := 30) hx hb dX4_opening_24 (by decide) (fun c_2 => ?_) (fun c_2 => ?_)
    · skip
      refine lv_iload_n hx hb dX4_opening_30 rfl (lv_at hl 1 rfl) ?_
      refine callSO (n := 1) (As := [.int (iI ((e1 : Nat) : Int))]) (rest := []) (wc := []) S (c_single l D cI cB cZ cO e1 (by first | assumption | (omega))) gX4_opening_X4_single rfl ⟨rfl, rfl⟩ (by decide +kernel) ⟨Nat.le_of_ble_eq_true rfl, Nat.le_of_ble_eq_true rfl⟩ hE hP [] rfl rfl hl.1 rfl (Nat.le_of_ble_eq_true rfl) dX4_opening_31 ⟨Nat.le_of_ble_eq_true rfl, Nat.le_of_ble_eq_true rfl⟩ ?_
      refine lv_aload_n hx hb dX4_opening_34 rfl (lv_at hl 0 rfl) ?_
      refine va_get (D := D) (ci := 4) (v := .ref h) (C := RX4) (T := TX4) (N := 7) hx hb hts nX4_opening_X4 hown hK hP 0 rfl rfl 2 (by decide) (hts _ kX4_opening_28) (fun _ h9 => h9) rfl dX4_opening_35 ?_
      refine lv_iload_n hx hb dX4_opening_38 rfl (lv_at hl 1 rfl) ?_
      refine callVO (n := 1) (As := [.int (iI ((e1 : Nat) : Int))]) (rest := [.int (iI ((2 ^ e1 : Nat) : Int))]) (wc := [(h, .inr (0, [.ref a1, .ref a2, .ref a3, .int (iI ((tt : Nat) : Int)), .ref a4, .int (iI ((ln : Nat) : Int)), .ref a5, .int (iI ((ed : Nat) : Int)), .int (iI ((es : Nat) : Int)), .int (iI ((ac : Nat) : Int)), .int (iI ((cu : Nat) : Int))])), (a5, .inl (cI, 16, .inl (rN (ba))))]) S (c_basesOf l D cI cB cZ cO h a1 a2 a3 a4 a5 tt ln ed es ac cu ba e1 (by first | assumption | (omega)) (by first | assumption | (omega))) gX4_opening_X0_basesOf rfl ⟨rfl, rfl⟩ (by decide +kernel) ⟨Nat.le_of_ble_eq_true rfl, Nat.le_of_ble_eq_true rfl⟩ hE hP [1, 2] rfl 0 0 rfl rfl rfl hl.1 rfl (Nat.le_of_ble_eq_true rfl) dX4_opening_39 ⟨Nat.le_of_ble_eq_true rfl, Nat.le_of_ble_eq_true rfl⟩ ?_
      refine r_ior hx hb (2 ^ e1) (ba e1) (rfl) (rfl) dX4_opening_42 ?_
      refine lv_aload_n hx hb dX4_opening_43 rfl (lv_at hl 0 rfl) ?_
      refine va_get (D := D) (ci := 4) (v := .ref h) (C := RX4) (T := TX4) (N := 7) hx hb hts nX4_opening_X4 hown hK hP 0 rfl rfl 2 (by decide) (hts _ kX4_opening_28) (fun _ h9 => h9) rfl dX4_opening_44 ?_
      refine va_getN (D := D) (ci := 0) (v := .int (iI ((ac : Nat) : Int))) (C := RX0) (T := TX0) (N := 11) hx hb hts nX4_opening_X0 hown hK hP 1 rfl rfl 9 (by decide) (va_Nw.use rfl (hE.2.f 19 rfl)) (fun _ h9 => h9) rfl dX4_opening_47 ?_
      refine r_iconst hx hb dX4_opening_50 ?_
      refine r_inot (v := (-1 - ((ac : Nat) : Int))) hx hb (rfl) dX4_opening_51 ?_
      refine r_iandnot hx hb ((2 ^ e1) ||| (ba e1)) (ac) (rfl) rfl dX4_opening_52 ?_
      exact r_iretO hx hb hr hlocks (by omega) dX4_opening_53
    · skip
      exfalso; exact hna (by assumption)
  · skip
    exfalso; omega

theorem kX4_refusalToTakeBack_28 : Cond.fieldLink RX4 28 "PricedUndo" "buffer" "LPricedUndo$Buffer;" ∈ wsX4_refusalToTakeBack := by decide +kernel
theorem nX4_refusalToTakeBack_X4 : ∀ w ∈ u_ws RX4 TX4 7, w ∈ wsX4_refusalToTakeBack := by decide +kernel
set_option maxHeartbeats 4000000 in
set_option maxRecDepth 100000 in
theorem p_refuse_bad (l : Launch) (D : va_G) (cI cB cZ cO : ClassId) (xp : Nat) (xc : Nat) (xs : Nat) (xq : Nat) (xl : Nat) (ag : Nat) (di : Nat) (h : Nat) (a1 : Nat) (a2 : Nat) (a3 : Nat) (a4 : Nat) (a5 : Nat) (tt : Nat) (ln : Nat) (ed : Nat) (es : Nat) (ac : Nat) (cu : Nat) (x : Int) (hed : ed ≤ 16) (rx : rg x) (hbad : ¬ (0 ≤ x ∧ x < ((2 ^ ed : Nat) : Int))) : Met l yX4_refusalToTakeBack wsX4_refusalToTakeBack ({ frames := 1, cells := 0, slots := 0, locals := 21 }) (va_Pc [.ref xp, .int (iI (x))] (RO D cI cB cZ cO [(xp, .inr (4, [.ref xc, .ref xs, .ref h, .ref xq, .ref xl, .int (iI ((ag : Nat) : Int)), .int (iI ((di : Nat) : Int))])), (h, .inr (0, [.ref a1, .ref a2, .ref a3, .int (iI ((tt : Nat) : Int)), .ref a4, .int (iI ((ln : Nat) : Int)), .ref a5, .int (iI ((ed : Nat) : Int)), .int (iI ((es : Nat) : Int)), .int (iI ((ac : Nat) : Int)), .int (iI ((cu : Nat) : Int))]))])) (QO (-1)) 0 0 (fun _ => False) := by
  refine startO (cc := cX4_refusalToTakeBack) (maxL := 2) (ret := (some .int)) (by decide) rfl (Nat.le_of_ble_eq_true rfl) ?_
  intro p e s m below meth c S hr hlocks hE hP ls hl
  have hx := S.1
  have hb := S.2.1
  have hown := S.2.2.2.1
  have hts := S.2.2.2.2
  have hK := hE.1
  have hl : lv_has ls 2 [(0, .ref xp), (1, .int (iI (x)))] := hl
  refine lv_aload_n hx hb dX4_refusalToTakeBack_0 rfl (lv_at hl 0 rfl) ?_
  refine va_get (D := D) (ci := 4) (v := .ref h) (C := RX4) (T := TX4) (N := 7) hx hb hts nX4_refusalToTakeBack_X4 hown hK hP 0 rfl rfl 2 (by decide) (hts _ kX4_refusalToTakeBack_28) (fun _ h9 => h9) rfl dX4_refusalToTakeBack_1 ?_
  refine lv_iload_n hx hb dX4_refusalToTakeBack_4 rfl (lv_at hl 1 rfl) ?_
  refine callVO (n := 1) (As := [.int (iI (x))]) (rest := []) (wc := [(h, .inr (0, [.ref a1, .ref a2, .ref a3, .int (iI ((tt : Nat) : Int)), .ref a4, .int (iI ((ln : Nat) : Int)), .ref a5, .int (iI ((ed : Nat) : Int)), .int (iI ((es : Nat) : Int)), .int (iI ((ac : Nat) : Int)), .int (iI ((cu : Nat) : Int))]))]) S (c_hasEdits l D cI cB cZ cO h a1 a2 a3 a4 a5 tt ln ed es ac cu x (by first | assumption | (omega)) (by first | assumption | (omega))) gX4_refusalToTakeBack_X0_hasEdits rfl ⟨rfl, rfl⟩ (by decide +kernel) ⟨Nat.le_of_ble_eq_true rfl, Nat.le_of_ble_eq_true rfl⟩ hE hP [1] rfl 0 0 rfl rfl rfl hl.1 rfl (Nat.le_of_ble_eq_true rfl) dX4_refusalToTakeBack_5 ⟨Nat.le_of_ble_eq_true rfl, Nat.le_of_ble_eq_true rfl⟩ ?_
  refine r_ifb_ne (tgt := 13) hx hb dX4_refusalToTakeBack_8 (by decide) (fun c_1 => ?_) (fun c_1 => ?_)
  · skip
    exfalso; exact hbad (by assumption)
  · skip
    refine r_iconst hx hb dX4_refusalToTakeBack_11 ?_
    exact r_iretO hx hb hr hlocks (rfl) dX4_refusalToTakeBack_12

set_option maxHeartbeats 4000000 in
set_option maxRecDepth 100000 in
theorem p_refuse_no (l : Launch) (D : va_G) (cI cB cZ cO : ClassId) (xp : Nat) (xc : Nat) (xs : Nat) (xq : Nat) (xl : Nat) (ag : Nat) (di : Nat) (h : Nat) (a1 : Nat) (a2 : Nat) (a3 : Nat) (a4 : Nat) (a5 : Nat) (tt : Nat) (ln : Nat) (ed : Nat) (es : Nat) (ac : Nat) (cu : Nat) (ba : Nat → Nat) (st1 : Nat) (hed : ed ≤ 16) (hac : ac < 65536) (hba : ∀ k, ba k < 65536) (hst : st1 < 2 ^ ed) (hno : ¬ ct ba ed ac st1) : Met l yX4_refusalToTakeBack wsX4_refusalToTakeBack ({ frames := 3, cells := 0, slots := 0, locals := 64 }) (va_Pc [.ref xp, .int (iI ((st1 : Nat) : Int))] (RO D cI cB cZ cO [(xp, .inr (4, [.ref xc, .ref xs, .ref h, .ref xq, .ref xl, .int (iI ((ag : Nat) : Int)), .int (iI ((di : Nat) : Int))])), (h, .inr (0, [.ref a1, .ref a2, .ref a3, .int (iI ((tt : Nat) : Int)), .ref a4, .int (iI ((ln : Nat) : Int)), .ref a5, .int (iI ((ed : Nat) : Int)), .int (iI ((es : Nat) : Int)), .int (iI ((ac : Nat) : Int)), .int (iI ((cu : Nat) : Int))])), (a5, .inl (cI, 16, .inl (rN (ba))))])) (QO (-2)) 0 0 (fun _ => False) := by
  refine startO (cc := cX4_refusalToTakeBack) (maxL := 2) (ret := (some .int)) (by decide) rfl (Nat.le_of_ble_eq_true rfl) ?_
  intro p e s m below meth c S hr hlocks hE hP ls hl
  have hx := S.1
  have hb := S.2.1
  have hown := S.2.2.2.1
  have hts := S.2.2.2.2
  have hK := hE.1
  have hl : lv_has ls 2 [(0, .ref xp), (1, .int (iI ((st1 : Nat) : Int)))] := hl
  have hp2 := pow_le16 hed
  refine lv_aload_n hx hb dX4_refusalToTakeBack_0 rfl (lv_at hl 0 rfl) ?_
  refine va_get (D := D) (ci := 4) (v := .ref h) (C := RX4) (T := TX4) (N := 7) hx hb hts nX4_refusalToTakeBack_X4 hown hK hP 0 rfl rfl 2 (by decide) (hts _ kX4_refusalToTakeBack_28) (fun _ h9 => h9) rfl dX4_refusalToTakeBack_1 ?_
  refine lv_iload_n hx hb dX4_refusalToTakeBack_4 rfl (lv_at hl 1 rfl) ?_
  refine callVO (n := 1) (As := [.int (iI ((st1 : Nat) : Int))]) (rest := []) (wc := [(h, .inr (0, [.ref a1, .ref a2, .ref a3, .int (iI ((tt : Nat) : Int)), .ref a4, .int (iI ((ln : Nat) : Int)), .ref a5, .int (iI ((ed : Nat) : Int)), .int (iI ((es : Nat) : Int)), .int (iI ((ac : Nat) : Int)), .int (iI ((cu : Nat) : Int))]))]) S (c_hasEdits l D cI cB cZ cO h a1 a2 a3 a4 a5 tt ln ed es ac cu (((st1 : Nat) : Int)) (by first | assumption | (omega)) (by first | assumption | (omega))) gX4_refusalToTakeBack_X0_hasEdits rfl ⟨rfl, rfl⟩ (by decide +kernel) ⟨Nat.le_of_ble_eq_true rfl, Nat.le_of_ble_eq_true rfl⟩ hE hP [1] rfl 0 0 rfl rfl rfl hl.1 rfl (Nat.le_of_ble_eq_true rfl) dX4_refusalToTakeBack_5 ⟨Nat.le_of_ble_eq_true rfl, Nat.le_of_ble_eq_true rfl⟩ ?_
  refine r_ifb_ne (tgt := 13) hx hb dX4_refusalToTakeBack_8 (by decide) (fun c_1 => ?_) (fun c_1 => ?_)
  · skip
    refine lv_aload_n hx hb dX4_refusalToTakeBack_13 rfl (lv_at hl 0 rfl) ?_
    refine va_get (D := D) (ci := 4) (v := .ref h) (C := RX4) (T := TX4) (N := 7) hx hb hts nX4_refusalToTakeBack_X4 hown hK hP 0 rfl rfl 2 (by decide) (hts _ kX4_refusalToTakeBack_28) (fun _ h9 => h9) rfl dX4_refusalToTakeBack_14 ?_
    refine lv_iload_n hx hb dX4_refusalToTakeBack_17 rfl (lv_at hl 1 rfl) ?_
    refine callVO (n := 1) (As := [.int (iI ((st1 : Nat) : Int))]) (rest := []) (wc := [(h, .inr (0, [.ref a1, .ref a2, .ref a3, .int (iI ((tt : Nat) : Int)), .ref a4, .int (iI ((ln : Nat) : Int)), .ref a5, .int (iI ((ed : Nat) : Int)), .int (iI ((es : Nat) : Int)), .int (iI ((ac : Nat) : Int)), .int (iI ((cu : Nat) : Int))])), (a5, .inl (cI, 16, .inl (rN (ba))))]) S (c_canTakeBack l D cI cB cZ cO h a1 a2 a3 a4 a5 tt ln ed es ac cu ba st1 (by first | assumption | (omega)) (by first | assumption | (omega)) (by first | assumption | (omega)) (by first | assumption | (omega))) gX4_refusalToTakeBack_X0_canTakeBack rfl ⟨rfl, rfl⟩ (by decide +kernel) ⟨Nat.le_of_ble_eq_true rfl, Nat.le_of_ble_eq_true rfl⟩ hE hP [1, 2] rfl 0 0 rfl rfl rfl hl.1 rfl (Nat.le_of_ble_eq_true rfl) dX4_refusalToTakeBack_18 ⟨Nat.le_of_ble_eq_true rfl, Nat.le_of_ble_eq_true rfl⟩ ?_
    refine r_ifb_eq (tgt := 28) hx hb dX4_refusalToTakeBack_21 (by decide) (fun c_2 => ?_) (fun c_2 => ?_)
    · skip
      refine r_bipush hx hb dX4_refusalToTakeBack_28 (by decide) ?_
      exact r_iretO hx hb hr hlocks (rfl) dX4_refusalToTakeBack_30
    · skip
      exfalso; exact hno (by assumption)
  · skip
    exfalso; omega

set_option maxHeartbeats 4000000 in
set_option maxRecDepth 100000 in
theorem p_refuse_ok (l : Launch) (D : va_G) (cI cB cZ cO : ClassId) (xp : Nat) (xc : Nat) (xs : Nat) (xq : Nat) (xl : Nat) (ag : Nat) (di : Nat) (h : Nat) (a1 : Nat) (a2 : Nat) (a3 : Nat) (a4 : Nat) (a5 : Nat) (tt : Nat) (ln : Nat) (ed : Nat) (es : Nat) (ac : Nat) (cu : Nat) (ba : Nat → Nat) (st1 : Nat) (hed : ed ≤ 16) (hac : ac < 65536) (hba : ∀ k, ba k < 65536) (hst : st1 < 2 ^ ed) (hok : ct ba ed ac st1) : Met l yX4_refusalToTakeBack wsX4_refusalToTakeBack ({ frames := 3, cells := 0, slots := 0, locals := 64 }) (va_Pc [.ref xp, .int (iI ((st1 : Nat) : Int))] (RO D cI cB cZ cO [(xp, .inr (4, [.ref xc, .ref xs, .ref h, .ref xq, .ref xl, .int (iI ((ag : Nat) : Int)), .int (iI ((di : Nat) : Int))])), (h, .inr (0, [.ref a1, .ref a2, .ref a3, .int (iI ((tt : Nat) : Int)), .ref a4, .int (iI ((ln : Nat) : Int)), .ref a5, .int (iI ((ed : Nat) : Int)), .int (iI ((es : Nat) : Int)), .int (iI ((ac : Nat) : Int)), .int (iI ((cu : Nat) : Int))])), (a5, .inl (cI, 16, .inl (rN (ba))))])) (QO 0) 0 0 (fun _ => False) := by
  refine startO (cc := cX4_refusalToTakeBack) (maxL := 2) (ret := (some .int)) (by decide) rfl (Nat.le_of_ble_eq_true rfl) ?_
  intro p e s m below meth c S hr hlocks hE hP ls hl
  have hx := S.1
  have hb := S.2.1
  have hown := S.2.2.2.1
  have hts := S.2.2.2.2
  have hK := hE.1
  have hl : lv_has ls 2 [(0, .ref xp), (1, .int (iI ((st1 : Nat) : Int)))] := hl
  have hp2 := pow_le16 hed
  refine lv_aload_n hx hb dX4_refusalToTakeBack_0 rfl (lv_at hl 0 rfl) ?_
  refine va_get (D := D) (ci := 4) (v := .ref h) (C := RX4) (T := TX4) (N := 7) hx hb hts nX4_refusalToTakeBack_X4 hown hK hP 0 rfl rfl 2 (by decide) (hts _ kX4_refusalToTakeBack_28) (fun _ h9 => h9) rfl dX4_refusalToTakeBack_1 ?_
  refine lv_iload_n hx hb dX4_refusalToTakeBack_4 rfl (lv_at hl 1 rfl) ?_
  refine callVO (n := 1) (As := [.int (iI ((st1 : Nat) : Int))]) (rest := []) (wc := [(h, .inr (0, [.ref a1, .ref a2, .ref a3, .int (iI ((tt : Nat) : Int)), .ref a4, .int (iI ((ln : Nat) : Int)), .ref a5, .int (iI ((ed : Nat) : Int)), .int (iI ((es : Nat) : Int)), .int (iI ((ac : Nat) : Int)), .int (iI ((cu : Nat) : Int))]))]) S (c_hasEdits l D cI cB cZ cO h a1 a2 a3 a4 a5 tt ln ed es ac cu (((st1 : Nat) : Int)) (by first | assumption | (omega)) (by first | assumption | (omega))) gX4_refusalToTakeBack_X0_hasEdits rfl ⟨rfl, rfl⟩ (by decide +kernel) ⟨Nat.le_of_ble_eq_true rfl, Nat.le_of_ble_eq_true rfl⟩ hE hP [1] rfl 0 0 rfl rfl rfl hl.1 rfl (Nat.le_of_ble_eq_true rfl) dX4_refusalToTakeBack_5 ⟨Nat.le_of_ble_eq_true rfl, Nat.le_of_ble_eq_true rfl⟩ ?_
  refine r_ifb_ne (tgt := 13) hx hb dX4_refusalToTakeBack_8 (by decide) (fun c_1 => ?_) (fun c_1 => ?_)
  · skip
    refine lv_aload_n hx hb dX4_refusalToTakeBack_13 rfl (lv_at hl 0 rfl) ?_
    refine va_get (D := D) (ci := 4) (v := .ref h) (C := RX4) (T := TX4) (N := 7) hx hb hts nX4_refusalToTakeBack_X4 hown hK hP 0 rfl rfl 2 (by decide) (hts _ kX4_refusalToTakeBack_28) (fun _ h9 => h9) rfl dX4_refusalToTakeBack_14 ?_
    refine lv_iload_n hx hb dX4_refusalToTakeBack_17 rfl (lv_at hl 1 rfl) ?_
    refine callVO (n := 1) (As := [.int (iI ((st1 : Nat) : Int))]) (rest := []) (wc := [(h, .inr (0, [.ref a1, .ref a2, .ref a3, .int (iI ((tt : Nat) : Int)), .ref a4, .int (iI ((ln : Nat) : Int)), .ref a5, .int (iI ((ed : Nat) : Int)), .int (iI ((es : Nat) : Int)), .int (iI ((ac : Nat) : Int)), .int (iI ((cu : Nat) : Int))])), (a5, .inl (cI, 16, .inl (rN (ba))))]) S (c_canTakeBack l D cI cB cZ cO h a1 a2 a3 a4 a5 tt ln ed es ac cu ba st1 (by first | assumption | (omega)) (by first | assumption | (omega)) (by first | assumption | (omega)) (by first | assumption | (omega))) gX4_refusalToTakeBack_X0_canTakeBack rfl ⟨rfl, rfl⟩ (by decide +kernel) ⟨Nat.le_of_ble_eq_true rfl, Nat.le_of_ble_eq_true rfl⟩ hE hP [1, 2] rfl 0 0 rfl rfl rfl hl.1 rfl (Nat.le_of_ble_eq_true rfl) dX4_refusalToTakeBack_18 ⟨Nat.le_of_ble_eq_true rfl, Nat.le_of_ble_eq_true rfl⟩ ?_
    refine r_ifb_eq (tgt := 28) hx hb dX4_refusalToTakeBack_21 (by decide) (fun c_2 => ?_) (fun c_2 => ?_)
    · skip
      exfalso; exact absurd hok (by assumption)
    · skip
      refine r_iconst hx hb dX4_refusalToTakeBack_24 ?_
      refine lv_goto (tgt := 30) hx hb dX4_refusalToTakeBack_25 (by decide) ?_
      exact r_iretO hx hb hr hlocks (rfl) dX4_refusalToTakeBack_30
  · skip
    exfalso; omega

set_option maxHeartbeats 4000000 in
set_option maxRecDepth 100000 in
theorem p_price_bad (l : Launch) (D : va_G) (cI cB cZ cO : ClassId) (xp : Nat) (xc : Nat) (xs : Nat) (xq : Nat) (xl : Nat) (ag : Nat) (di : Nat) (h : Nat) (a1 : Nat) (a2 : Nat) (a3 : Nat) (a4 : Nat) (a5 : Nat) (tt : Nat) (ln : Nat) (ed : Nat) (es : Nat) (ac : Nat) (cu : Nat) (x : Int) (hed : ed ≤ 16) (rx : rg x) (hbad : ¬ (0 ≤ x ∧ x < ((2 ^ ed : Nat) : Int))) : Met l yX4_price wsX4_price ({ frames := 2, cells := 0, slots := 0, locals := 42 }) (va_Pc [.ref xp, .int (iI (x))] (RO D cI cB cZ cO [(xp, .inr (4, [.ref xc, .ref xs, .ref h, .ref xq, .ref xl, .int (iI ((ag : Nat) : Int)), .int (iI ((di : Nat) : Int))])), (h, .inr (0, [.ref a1, .ref a2, .ref a3, .int (iI ((tt : Nat) : Int)), .ref a4, .int (iI ((ln : Nat) : Int)), .ref a5, .int (iI ((ed : Nat) : Int)), .int (iI ((es : Nat) : Int)), .int (iI ((ac : Nat) : Int)), .int (iI ((cu : Nat) : Int))]))])) (QO (-1)) 0 0 (fun _ => False) := by
  refine startO (cc := cX4_price) (maxL := 3) (ret := (some .int)) (by decide) rfl (Nat.le_of_ble_eq_true rfl) ?_
  intro p e s m below meth c S hr hlocks hE hP ls hl
  have hx := S.1
  have hb := S.2.1
  have hown := S.2.2.2.1
  have hts := S.2.2.2.2
  have hK := hE.1
  have hl : lv_has ls 3 [(0, .ref xp), (1, .int (iI (x)))] := hl
  refine lv_aload_n hx hb dX4_price_0 rfl (lv_at hl 0 rfl) ?_
  refine lv_iload_n hx hb dX4_price_1 rfl (lv_at hl 1 rfl) ?_
  refine callVO (n := 1) (As := [.int (iI (x))]) (rest := []) (wc := [(xp, .inr (4, [.ref xc, .ref xs, .ref h, .ref xq, .ref xl, .int (iI ((ag : Nat) : Int)), .int (iI ((di : Nat) : Int))])), (h, .inr (0, [.ref a1, .ref a2, .ref a3, .int (iI ((tt : Nat) : Int)), .ref a4, .int (iI ((ln : Nat) : Int)), .ref a5, .int (iI ((ed : Nat) : Int)), .int (iI ((es : Nat) : Int)), .int (iI ((ac : Nat) : Int)), .int (iI ((cu : Nat) : Int))]))]) S (p_refuse_bad l D cI cB cZ cO xp xc xs xq xl ag di h a1 a2 a3 a4 a5 tt ln ed es ac cu x (by first | assumption | (omega)) (by first | assumption | (omega)) (by first | assumption | (omega))) gX4_price_X4_refusalToTakeBack rfl ⟨rfl, rfl⟩ (by decide +kernel) ⟨Nat.le_of_ble_eq_true rfl, Nat.le_of_ble_eq_true rfl⟩ hE hP [0, 1] rfl 4 0 rfl rfl rfl hl.1 rfl (Nat.le_of_ble_eq_true rfl) dX4_price_2 ⟨Nat.le_of_ble_eq_true rfl, Nat.le_of_ble_eq_true rfl⟩ ?_
  refine lv_istore_n (lv' := [(2, .int (iI (-1))), (0, .ref xp), (1, .int (iI (x)))]) hx hb dX4_price_5 rfl hl (by decide) rfl (fun ls hl => ?_)
  refine lv_iload_n hx hb dX4_price_6 rfl (lv_at hl 0 rfl) ?_
  refine r_if_ge (tgt := 14) hx hb (⟨by decide, by decide⟩) dX4_price_7 (by decide) (fun c_1 => ?_) (fun c_1 => ?_)
  · skip
    exact absurd c_1 (by decide)
  · skip
    refine lv_iload_n hx hb dX4_price_10 rfl (lv_at hl 0 rfl) ?_
    refine lv_goto (tgt := 30) hx hb dX4_price_11 (by decide) ?_
    exact r_iretO hx hb hr hlocks (rfl) dX4_price_30

set_option maxHeartbeats 4000000 in
set_option maxRecDepth 100000 in
theorem p_price_no (l : Launch) (D : va_G) (cI cB cZ cO : ClassId) (xp : Nat) (xc : Nat) (xs : Nat) (xq : Nat) (xl : Nat) (ag : Nat) (di : Nat) (h : Nat) (a1 : Nat) (a2 : Nat) (a3 : Nat) (a4 : Nat) (a5 : Nat) (tt : Nat) (ln : Nat) (ed : Nat) (es : Nat) (ac : Nat) (cu : Nat) (ba : Nat → Nat) (st1 : Nat) (hed : ed ≤ 16) (hac : ac < 65536) (hba : ∀ k, ba k < 65536) (hst : st1 < 2 ^ ed) (hno : ¬ ct ba ed ac st1) : Met l yX4_price wsX4_price ({ frames := 4, cells := 0, slots := 0, locals := 85 }) (va_Pc [.ref xp, .int (iI ((st1 : Nat) : Int))] (RO D cI cB cZ cO [(xp, .inr (4, [.ref xc, .ref xs, .ref h, .ref xq, .ref xl, .int (iI ((ag : Nat) : Int)), .int (iI ((di : Nat) : Int))])), (h, .inr (0, [.ref a1, .ref a2, .ref a3, .int (iI ((tt : Nat) : Int)), .ref a4, .int (iI ((ln : Nat) : Int)), .ref a5, .int (iI ((ed : Nat) : Int)), .int (iI ((es : Nat) : Int)), .int (iI ((ac : Nat) : Int)), .int (iI ((cu : Nat) : Int))])), (a5, .inl (cI, 16, .inl (rN (ba))))])) (QO (-2)) 0 0 (fun _ => False) := by
  refine startO (cc := cX4_price) (maxL := 3) (ret := (some .int)) (by decide) rfl (Nat.le_of_ble_eq_true rfl) ?_
  intro p e s m below meth c S hr hlocks hE hP ls hl
  have hx := S.1
  have hb := S.2.1
  have hown := S.2.2.2.1
  have hts := S.2.2.2.2
  have hK := hE.1
  have hl : lv_has ls 3 [(0, .ref xp), (1, .int (iI ((st1 : Nat) : Int)))] := hl
  refine lv_aload_n hx hb dX4_price_0 rfl (lv_at hl 0 rfl) ?_
  refine lv_iload_n hx hb dX4_price_1 rfl (lv_at hl 1 rfl) ?_
  refine callVO (n := 1) (As := [.int (iI ((st1 : Nat) : Int))]) (rest := []) (wc := [(xp, .inr (4, [.ref xc, .ref xs, .ref h, .ref xq, .ref xl, .int (iI ((ag : Nat) : Int)), .int (iI ((di : Nat) : Int))])), (h, .inr (0, [.ref a1, .ref a2, .ref a3, .int (iI ((tt : Nat) : Int)), .ref a4, .int (iI ((ln : Nat) : Int)), .ref a5, .int (iI ((ed : Nat) : Int)), .int (iI ((es : Nat) : Int)), .int (iI ((ac : Nat) : Int)), .int (iI ((cu : Nat) : Int))])), (a5, .inl (cI, 16, .inl (rN (ba))))]) S (p_refuse_no l D cI cB cZ cO xp xc xs xq xl ag di h a1 a2 a3 a4 a5 tt ln ed es ac cu ba st1 (by first | assumption | (omega)) (by first | assumption | (omega)) (by first | assumption | (omega)) (by first | assumption | (omega)) (by first | assumption | (omega))) gX4_price_X4_refusalToTakeBack rfl ⟨rfl, rfl⟩ (by decide +kernel) ⟨Nat.le_of_ble_eq_true rfl, Nat.le_of_ble_eq_true rfl⟩ hE hP [0, 1, 2] rfl 4 0 rfl rfl rfl hl.1 rfl (Nat.le_of_ble_eq_true rfl) dX4_price_2 ⟨Nat.le_of_ble_eq_true rfl, Nat.le_of_ble_eq_true rfl⟩ ?_
  refine lv_istore_n (lv' := [(2, .int (iI (-2))), (0, .ref xp), (1, .int (iI ((st1 : Nat) : Int)))]) hx hb dX4_price_5 rfl hl (by decide) rfl (fun ls hl => ?_)
  refine lv_iload_n hx hb dX4_price_6 rfl (lv_at hl 0 rfl) ?_
  refine r_if_ge (tgt := 14) hx hb (⟨by decide, by decide⟩) dX4_price_7 (by decide) (fun c_1 => ?_) (fun c_1 => ?_)
  · skip
    exact absurd c_1 (by decide)
  · skip
    refine lv_iload_n hx hb dX4_price_10 rfl (lv_at hl 0 rfl) ?_
    refine lv_goto (tgt := 30) hx hb dX4_price_11 (by decide) ?_
    exact r_iretO hx hb hr hlocks (rfl) dX4_price_30

theorem kX4_price_28 : Cond.fieldLink RX4 28 "PricedUndo" "buffer" "LPricedUndo$Buffer;" ∈ wsX4_price := by decide +kernel
theorem nX4_price_X4 : ∀ w ∈ u_ws RX4 TX4 7, w ∈ wsX4_price := by decide +kernel
theorem kX4_price_43 : Cond.fieldLink RX4 43 "PricedUndo" "ageRate" "I" ∈ wsX4_price := by decide +kernel
theorem kX4_price_47 : Cond.fieldLink RX4 47 "PricedUndo" "distanceRate" "I" ∈ wsX4_price := by decide +kernel
set_option maxHeartbeats 4000000 in
set_option maxRecDepth 100000 in
theorem p_price (l : Launch) (D : va_G) (cI cB cZ cO : ClassId) (xp : Nat) (xc : Nat) (xs : Nat) (xq : Nat) (xl : Nat) (ag : Nat) (di : Nat) (h : Nat) (a1 : Nat) (a2 : Nat) (a3 : Nat) (a4 : Nat) (a5 : Nat) (tt : Nat) (ln : Nat) (ed : Nat) (es : Nat) (ac : Nat) (cu : Nat) (ow : Nat → Nat) (er : Nat → Nat) (ba : Nat → Nat) (st1 : Nat) (hed : ed ≤ 16) (hac : ac < 65536) (hba : ∀ k, ba k < 65536) (hst : st1 < 2 ^ ed) (hok : ct ba ed ac st1) (htt : tt ≤ 160) (hcu : cu ≤ 60) (how : ∀ k, ow k < 65536) (her : ∀ k, er k < 65536) : Met l yX4_price wsX4_price ({ frames := 5, cells := 0, slots := 0, locals := 118 }) (va_Pc [.ref xp, .int (iI ((st1 : Nat) : Int))] (RO D cI cB cZ cO [(xp, .inr (4, [.ref xc, .ref xs, .ref h, .ref xq, .ref xl, .int (iI ((ag : Nat) : Int)), .int (iI ((di : Nat) : Int))])), (h, .inr (0, [.ref a1, .ref a2, .ref a3, .int (iI ((tt : Nat) : Int)), .ref a4, .int (iI ((ln : Nat) : Int)), .ref a5, .int (iI ((ed : Nat) : Int)), .int (iI ((es : Nat) : Int)), .int (iI ((ac : Nat) : Int)), .int (iI ((cu : Nat) : Int))])), (a2, .inl (cI, 160, .inl (rN (ow)))), (a3, .inl (cI, 160, .inl (rN (er)))), (a5, .inl (cI, 16, .inl (rN (ba))))])) (QO ((psm (prc ow er tt ac cu ag di) st1 ed : Nat) : Int)) 0 0 (fun _ => False) := by
  refine startO (cc := cX4_price) (maxL := 3) (ret := (some .int)) (by decide) rfl (Nat.le_of_ble_eq_true rfl) ?_
  intro p e s m below meth c S hr hlocks hE hP ls hl
  have hx := S.1
  have hb := S.2.1
  have hown := S.2.2.2.1
  have hts := S.2.2.2.2
  have hK := hE.1
  have hl : lv_has ls 3 [(0, .ref xp), (1, .int (iI ((st1 : Nat) : Int)))] := hl
  have hp2 := pow_le16 hed
  refine lv_aload_n hx hb dX4_price_0 rfl (lv_at hl 0 rfl) ?_
  refine lv_iload_n hx hb dX4_price_1 rfl (lv_at hl 1 rfl) ?_
  refine callVO (n := 1) (As := [.int (iI ((st1 : Nat) : Int))]) (rest := []) (wc := [(xp, .inr (4, [.ref xc, .ref xs, .ref h, .ref xq, .ref xl, .int (iI ((ag : Nat) : Int)), .int (iI ((di : Nat) : Int))])), (h, .inr (0, [.ref a1, .ref a2, .ref a3, .int (iI ((tt : Nat) : Int)), .ref a4, .int (iI ((ln : Nat) : Int)), .ref a5, .int (iI ((ed : Nat) : Int)), .int (iI ((es : Nat) : Int)), .int (iI ((ac : Nat) : Int)), .int (iI ((cu : Nat) : Int))])), (a5, .inl (cI, 16, .inl (rN (ba))))]) S (p_refuse_ok l D cI cB cZ cO xp xc xs xq xl ag di h a1 a2 a3 a4 a5 tt ln ed es ac cu ba st1 (by first | assumption | (omega)) (by first | assumption | (omega)) (by first | assumption | (omega)) (by first | assumption | (omega)) (by first | assumption | (omega))) gX4_price_X4_refusalToTakeBack rfl ⟨rfl, rfl⟩ (by decide +kernel) ⟨Nat.le_of_ble_eq_true rfl, Nat.le_of_ble_eq_true rfl⟩ hE hP [0, 1, 4] rfl 4 0 rfl rfl rfl hl.1 rfl (Nat.le_of_ble_eq_true rfl) dX4_price_2 ⟨Nat.le_of_ble_eq_true rfl, Nat.le_of_ble_eq_true rfl⟩ ?_
  refine lv_istore_n (lv' := [(2, .int (iI 0)), (0, .ref xp), (1, .int (iI ((st1 : Nat) : Int)))]) hx hb dX4_price_5 rfl hl (by decide) rfl (fun ls hl => ?_)
  refine lv_iload_n hx hb dX4_price_6 rfl (lv_at hl 0 rfl) ?_
  refine r_if_ge (tgt := 14) hx hb (⟨by decide, by decide⟩) dX4_price_7 (by decide) (fun c_1 => ?_) (fun c_1 => ?_)
  · skip
    refine lv_aload_n hx hb dX4_price_14 rfl (lv_at hl 1 rfl) ?_
    refine va_get (D := D) (ci := 4) (v := .ref h) (C := RX4) (T := TX4) (N := 7) hx hb hts nX4_price_X4 hown hK hP 0 rfl rfl 2 (by decide) (hts _ kX4_price_28) (fun _ h9 => h9) rfl dX4_price_15 ?_
    refine lv_iload_n hx hb dX4_price_18 rfl (lv_at hl 2 rfl) ?_
    refine lv_aload_n hx hb dX4_price_19 rfl (lv_at hl 1 rfl) ?_
    refine va_get (D := D) (ci := 4) (v := .int (iI ((ag : Nat) : Int))) (C := RX4) (T := TX4) (N := 7) hx hb hts nX4_price_X4 hown hK hP 0 rfl rfl 5 (by decide) (hts _ kX4_price_43) (fun _ h9 => h9) rfl dX4_price_20 ?_
    refine lv_aload_n hx hb dX4_price_23 rfl (lv_at hl 1 rfl) ?_
    refine va_get (D := D) (ci := 4) (v := .int (iI ((di : Nat) : Int))) (C := RX4) (T := TX4) (N := 7) hx hb hts nX4_price_X4 hown hK hP 0 rfl rfl 6 (by decide) (hts _ kX4_price_47) (fun _ h9 => h9) rfl dX4_price_24 ?_
    refine callVO (n := 3) (As := [.int (iI ((st1 : Nat) : Int)), .int (iI ((ag : Nat) : Int)), .int (iI ((di : Nat) : Int))]) (rest := []) (wc := [(h, .inr (0, [.ref a1, .ref a2, .ref a3, .int (iI ((tt : Nat) : Int)), .ref a4, .int (iI ((ln : Nat) : Int)), .ref a5, .int (iI ((ed : Nat) : Int)), .int (iI ((es : Nat) : Int)), .int (iI ((ac : Nat) : Int)), .int (iI ((cu : Nat) : Int))])), (a2, .inl (cI, 160, .inl (rN (ow)))), (a3, .inl (cI, 160, .inl (rN (er))))]) S (c_priceOfSet l D cI cB cZ cO h a1 a2 a3 a4 a5 tt ln ed es ac cu ow er st1 ag di (by first | assumption | (omega)) (by first | assumption | (omega)) (by first | assumption | (omega)) (by first | assumption | (omega)) (by first | assumption | (omega)) (by first | assumption | (omega)) (by first | assumption | (omega))) gX4_price_X0_priceOfSet rfl ⟨rfl, rfl⟩ (by decide +kernel) ⟨Nat.le_of_ble_eq_true rfl, Nat.le_of_ble_eq_true rfl⟩ hE hP [1, 2, 3] rfl 0 0 rfl rfl rfl hl.1 rfl (Nat.le_of_ble_eq_true rfl) dX4_price_27 ⟨Nat.le_of_ble_eq_true rfl, Nat.le_of_ble_eq_true rfl⟩ ?_
    exact r_iretO hx hb hr hlocks (rfl) dX4_price_30
  · skip
    exact absurd c_1 (by decide)

set_option maxHeartbeats 4000000 in
set_option maxRecDepth 100000 in
theorem p_takeBack_zero (l : Launch) (D : va_G) (cI cB cZ cO : ClassId) (xp : Nat) (xc : Nat) (xs : Nat) (xq : Nat) (xl : Nat) (ag : Nat) (di : Nat) (h : Nat) (a1 : Nat) (a2 : Nat) (a3 : Nat) (a4 : Nat) (a5 : Nat) (tt : Nat) (ln : Nat) (ed : Nat) (es : Nat) (ac : Nat) (cu : Nat)  : Met l yX4_takeBack wsX4_takeBack ({ frames := 0, cells := 0, slots := 0, locals := 0 }) (va_Pc [.ref xp, .int (iI 0)] (RO D cI cB cZ cO [(xp, .inr (4, [.ref xc, .ref xs, .ref h, .ref xq, .ref xl, .int (iI ((ag : Nat) : Int)), .int (iI ((di : Nat) : Int))])), (h, .inr (0, [.ref a1, .ref a2, .ref a3, .int (iI ((tt : Nat) : Int)), .ref a4, .int (iI ((ln : Nat) : Int)), .ref a5, .int (iI ((ed : Nat) : Int)), .int (iI ((es : Nat) : Int)), .int (iI ((ac : Nat) : Int)), .int (iI ((cu : Nat) : Int))]))])) (QO (-1)) 0 0 (fun _ => False) := by
  refine startO (cc := cX4_takeBack) (maxL := 3) (ret := (some .int)) (by decide) rfl (Nat.le_of_ble_eq_true rfl) ?_
  intro p e s m below meth c S hr hlocks hE hP ls hl
  have hx := S.1
  have hb := S.2.1
  have hown := S.2.2.2.1
  have hts := S.2.2.2.2
  have hK := hE.1
  have hl : lv_has ls 3 [(0, .ref xp), (1, .int (iI 0))] := hl
  refine lv_iload_n hx hb dX4_takeBack_0 rfl (lv_at hl 1 rfl) ?_
  refine r_if_ne (tgt := 6) hx hb (⟨by decide, by decide⟩) dX4_takeBack_1 (by decide) (fun c_1 => ?_) (fun c_1 => ?_)
  · skip
    exact absurd c_1 (by decide)
  · skip
    refine r_iconst hx hb dX4_takeBack_4 ?_
    exact r_iretO hx hb hr hlocks (rfl) dX4_takeBack_5

set_option maxHeartbeats 4000000 in
set_option maxRecDepth 100000 in
theorem p_takeBack_bad (l : Launch) (D : va_G) (cI cB cZ cO : ClassId) (xp : Nat) (xc : Nat) (xs : Nat) (xq : Nat) (xl : Nat) (ag : Nat) (di : Nat) (h : Nat) (a1 : Nat) (a2 : Nat) (a3 : Nat) (a4 : Nat) (a5 : Nat) (tt : Nat) (ln : Nat) (ed : Nat) (es : Nat) (ac : Nat) (cu : Nat) (x : Int) (hed : ed ≤ 16) (rx : rg x) (hbad : ¬ (0 ≤ x ∧ x < ((2 ^ ed : Nat) : Int))) : Met l yX4_takeBack wsX4_takeBack ({ frames := 2, cells := 0, slots := 0, locals := 42 }) (va_Pc [.ref xp, .int (iI (x))] (RO D cI cB cZ cO [(xp, .inr (4, [.ref xc, .ref xs, .ref h, .ref xq, .ref xl, .int (iI ((ag : Nat) : Int)), .int (iI ((di : Nat) : Int))])), (h, .inr (0, [.ref a1, .ref a2, .ref a3, .int (iI ((tt : Nat) : Int)), .ref a4, .int (iI ((ln : Nat) : Int)), .ref a5, .int (iI ((ed : Nat) : Int)), .int (iI ((es : Nat) : Int)), .int (iI ((ac : Nat) : Int)), .int (iI ((cu : Nat) : Int))]))])) (QO (-1)) 0 0 (fun _ => False) := by
  refine startO (cc := cX4_takeBack) (maxL := 3) (ret := (some .int)) (by decide) rfl (Nat.le_of_ble_eq_true rfl) ?_
  intro p e s m below meth c S hr hlocks hE hP ls hl
  have hx := S.1
  have hb := S.2.1
  have hown := S.2.2.2.1
  have hts := S.2.2.2.2
  have hK := hE.1
  have hl : lv_has ls 3 [(0, .ref xp), (1, .int (iI (x)))] := hl
  refine lv_iload_n hx hb dX4_takeBack_0 rfl (lv_at hl 1 rfl) ?_
  refine r_if_ne (tgt := 6) hx hb (by omega) dX4_takeBack_1 (by decide) (fun c_1 => ?_) (fun c_1 => ?_)
  · skip
    refine lv_aload_n hx hb dX4_takeBack_6 rfl (lv_at hl 0 rfl) ?_
    refine lv_iload_n hx hb dX4_takeBack_7 rfl (lv_at hl 1 rfl) ?_
    refine callVO (n := 1) (As := [.int (iI (x))]) (rest := []) (wc := [(xp, .inr (4, [.ref xc, .ref xs, .ref h, .ref xq, .ref xl, .int (iI ((ag : Nat) : Int)), .int (iI ((di : Nat) : Int))])), (h, .inr (0, [.ref a1, .ref a2, .ref a3, .int (iI ((tt : Nat) : Int)), .ref a4, .int (iI ((ln : Nat) : Int)), .ref a5, .int (iI ((ed : Nat) : Int)), .int (iI ((es : Nat) : Int)), .int (iI ((ac : Nat) : Int)), .int (iI ((cu : Nat) : Int))]))]) S (p_refuse_bad l D cI cB cZ cO xp xc xs xq xl ag di h a1 a2 a3 a4 a5 tt ln ed es ac cu x (by first | assumption | (omega)) (by first | assumption | (omega)) (by first | assumption | (omega))) gX4_takeBack_X4_refusalToTakeBack rfl ⟨rfl, rfl⟩ (by decide +kernel) ⟨Nat.le_of_ble_eq_true rfl, Nat.le_of_ble_eq_true rfl⟩ hE hP [0, 1] rfl 4 0 rfl rfl rfl hl.1 rfl (Nat.le_of_ble_eq_true rfl) dX4_takeBack_8 ⟨Nat.le_of_ble_eq_true rfl, Nat.le_of_ble_eq_true rfl⟩ ?_
    refine lv_istore_n (lv' := [(2, .int (iI (-1))), (0, .ref xp), (1, .int (iI (x)))]) hx hb dX4_takeBack_11 rfl hl (by decide) rfl (fun ls hl => ?_)
    refine lv_iload_n hx hb dX4_takeBack_12 rfl (lv_at hl 0 rfl) ?_
    refine r_if_ge (tgt := 20) hx hb (⟨by decide, by decide⟩) dX4_takeBack_13 (by decide) (fun c_2 => ?_) (fun c_2 => ?_)
    · skip
      exact absurd c_2 (by decide)
    · skip
      refine lv_iload_n hx hb dX4_takeBack_16 rfl (lv_at hl 0 rfl) ?_
      refine lv_goto (tgt := 38) hx hb dX4_takeBack_17 (by decide) ?_
      exact r_iretO hx hb hr hlocks (rfl) dX4_takeBack_38
  · skip
    refine r_iconst hx hb dX4_takeBack_4 ?_
    exact r_iretO hx hb hr hlocks (rfl) dX4_takeBack_5

set_option maxHeartbeats 4000000 in
set_option maxRecDepth 100000 in
theorem p_takeBack_no (l : Launch) (D : va_G) (cI cB cZ cO : ClassId) (xp : Nat) (xc : Nat) (xs : Nat) (xq : Nat) (xl : Nat) (ag : Nat) (di : Nat) (h : Nat) (a1 : Nat) (a2 : Nat) (a3 : Nat) (a4 : Nat) (a5 : Nat) (tt : Nat) (ln : Nat) (ed : Nat) (es : Nat) (ac : Nat) (cu : Nat) (ba : Nat → Nat) (st1 : Nat) (hed : ed ≤ 16) (hac : ac < 65536) (hba : ∀ k, ba k < 65536) (hst : st1 < 2 ^ ed) (hz : ¬ st1 = 0) (hno : ¬ ct ba ed ac st1) : Met l yX4_takeBack wsX4_takeBack ({ frames := 4, cells := 0, slots := 0, locals := 85 }) (va_Pc [.ref xp, .int (iI ((st1 : Nat) : Int))] (RO D cI cB cZ cO [(xp, .inr (4, [.ref xc, .ref xs, .ref h, .ref xq, .ref xl, .int (iI ((ag : Nat) : Int)), .int (iI ((di : Nat) : Int))])), (h, .inr (0, [.ref a1, .ref a2, .ref a3, .int (iI ((tt : Nat) : Int)), .ref a4, .int (iI ((ln : Nat) : Int)), .ref a5, .int (iI ((ed : Nat) : Int)), .int (iI ((es : Nat) : Int)), .int (iI ((ac : Nat) : Int)), .int (iI ((cu : Nat) : Int))])), (a5, .inl (cI, 16, .inl (rN (ba))))])) (QO (-2)) 0 0 (fun _ => False) := by
  refine startO (cc := cX4_takeBack) (maxL := 3) (ret := (some .int)) (by decide) rfl (Nat.le_of_ble_eq_true rfl) ?_
  intro p e s m below meth c S hr hlocks hE hP ls hl
  have hx := S.1
  have hb := S.2.1
  have hown := S.2.2.2.1
  have hts := S.2.2.2.2
  have hK := hE.1
  have hl : lv_has ls 3 [(0, .ref xp), (1, .int (iI ((st1 : Nat) : Int)))] := hl
  have hp2 := pow_le16 hed
  refine lv_iload_n hx hb dX4_takeBack_0 rfl (lv_at hl 1 rfl) ?_
  refine r_if_ne (tgt := 6) hx hb (by omega) dX4_takeBack_1 (by decide) (fun c_1 => ?_) (fun c_1 => ?_)
  · skip
    refine lv_aload_n hx hb dX4_takeBack_6 rfl (lv_at hl 0 rfl) ?_
    refine lv_iload_n hx hb dX4_takeBack_7 rfl (lv_at hl 1 rfl) ?_
    refine callVO (n := 1) (As := [.int (iI ((st1 : Nat) : Int))]) (rest := []) (wc := [(xp, .inr (4, [.ref xc, .ref xs, .ref h, .ref xq, .ref xl, .int (iI ((ag : Nat) : Int)), .int (iI ((di : Nat) : Int))])), (h, .inr (0, [.ref a1, .ref a2, .ref a3, .int (iI ((tt : Nat) : Int)), .ref a4, .int (iI ((ln : Nat) : Int)), .ref a5, .int (iI ((ed : Nat) : Int)), .int (iI ((es : Nat) : Int)), .int (iI ((ac : Nat) : Int)), .int (iI ((cu : Nat) : Int))])), (a5, .inl (cI, 16, .inl (rN (ba))))]) S (p_refuse_no l D cI cB cZ cO xp xc xs xq xl ag di h a1 a2 a3 a4 a5 tt ln ed es ac cu ba st1 (by first | assumption | (omega)) (by first | assumption | (omega)) (by first | assumption | (omega)) (by first | assumption | (omega)) (by first | assumption | (omega))) gX4_takeBack_X4_refusalToTakeBack rfl ⟨rfl, rfl⟩ (by decide +kernel) ⟨Nat.le_of_ble_eq_true rfl, Nat.le_of_ble_eq_true rfl⟩ hE hP [0, 1, 2] rfl 4 0 rfl rfl rfl hl.1 rfl (Nat.le_of_ble_eq_true rfl) dX4_takeBack_8 ⟨Nat.le_of_ble_eq_true rfl, Nat.le_of_ble_eq_true rfl⟩ ?_
    refine lv_istore_n (lv' := [(2, .int (iI (-2))), (0, .ref xp), (1, .int (iI ((st1 : Nat) : Int)))]) hx hb dX4_takeBack_11 rfl hl (by decide) rfl (fun ls hl => ?_)
    refine lv_iload_n hx hb dX4_takeBack_12 rfl (lv_at hl 0 rfl) ?_
    refine r_if_ge (tgt := 20) hx hb (⟨by decide, by decide⟩) dX4_takeBack_13 (by decide) (fun c_2 => ?_) (fun c_2 => ?_)
    · skip
      exact absurd c_2 (by decide)
    · skip
      refine lv_iload_n hx hb dX4_takeBack_16 rfl (lv_at hl 0 rfl) ?_
      refine lv_goto (tgt := 38) hx hb dX4_takeBack_17 (by decide) ?_
      exact r_iretO hx hb hr hlocks (rfl) dX4_takeBack_38
  · skip
    exfalso; omega

theorem kX4_takeBack_28 : Cond.fieldLink RX4 28 "PricedUndo" "buffer" "LPricedUndo$Buffer;" ∈ wsX4_takeBack := by decide +kernel
theorem nX4_takeBack_X4 : ∀ w ∈ u_ws RX4 TX4 7, w ∈ wsX4_takeBack := by decide +kernel
theorem nX4_takeBack_X0 : ∀ w ∈ u_ws RX0 TX0 11, w ∈ wsX4_takeBack := by decide +kernel
set_option maxHeartbeats 4000000 in
set_option maxRecDepth 100000 in
theorem p_takeBack_full (l : Launch) (D : va_G) (cI cB cZ cO : ClassId) (xp : Nat) (xc : Nat) (xs : Nat) (xq : Nat) (xl : Nat) (ag : Nat) (di : Nat) (h : Nat) (a1 : Nat) (a2 : Nat) (a3 : Nat) (a4 : Nat) (a5 : Nat) (tt : Nat) (ln : Nat) (ed : Nat) (es : Nat) (ac : Nat) (cu : Nat) (ow : Nat → Nat) (er : Nat → Nat) (ba : Nat → Nat) (st1 : Nat) (hed : ed ≤ 16) (hac : ac < 65536) (hba : ∀ k, ba k < 65536) (hst : st1 < 2 ^ ed) (hz : ¬ st1 = 0) (hok : ct ba ed ac st1) (htt : tt ≤ 160) (hfull : 60 < cnt (visb ow er (nd ac st1)) tt) (how : ∀ k, ow k < 65536) (her : ∀ k, er k < 65536) : Met l yX4_takeBack wsX4_takeBack ({ frames := 4, cells := 0, slots := 0, locals := 85 }) (va_Pc [.ref xp, .int (iI ((st1 : Nat) : Int))] (RO D cI cB cZ cO [(xp, .inr (4, [.ref xc, .ref xs, .ref h, .ref xq, .ref xl, .int (iI ((ag : Nat) : Int)), .int (iI ((di : Nat) : Int))])), (h, .inr (0, [.ref a1, .ref a2, .ref a3, .int (iI ((tt : Nat) : Int)), .ref a4, .int (iI ((ln : Nat) : Int)), .ref a5, .int (iI ((ed : Nat) : Int)), .int (iI ((es : Nat) : Int)), .int (iI ((ac : Nat) : Int)), .int (iI ((cu : Nat) : Int))])), (a2, .inl (cI, 160, .inl (rN (ow)))), (a3, .inl (cI, 160, .inl (rN (er)))), (a5, .inl (cI, 16, .inl (rN (ba))))])) (QO (-3)) 0 0 (fun _ => False) := by
  refine startO (cc := cX4_takeBack) (maxL := 3) (ret := (some .int)) (by decide) rfl (Nat.le_of_ble_eq_true rfl) ?_
  intro p e s m below meth c S hr hlocks hE hP ls hl
  have hx := S.1
  have hb := S.2.1
  have hown := S.2.2.2.1
  have hts := S.2.2.2.2
  have hK := hE.1
  have hl : lv_has ls 3 [(0, .ref xp), (1, .int (iI ((st1 : Nat) : Int)))] := hl
  have hp2 := pow_le16 hed
  have hnl := nd_le ac st1
  refine lv_iload_n hx hb dX4_takeBack_0 rfl (lv_at hl 1 rfl) ?_
  refine r_if_ne (tgt := 6) hx hb (by omega) dX4_takeBack_1 (by decide) (fun c_1 => ?_) (fun c_1 => ?_)
  · skip
    refine lv_aload_n hx hb dX4_takeBack_6 rfl (lv_at hl 0 rfl) ?_
    refine lv_iload_n hx hb dX4_takeBack_7 rfl (lv_at hl 1 rfl) ?_
    refine callVO (n := 1) (As := [.int (iI ((st1 : Nat) : Int))]) (rest := []) (wc := [(xp, .inr (4, [.ref xc, .ref xs, .ref h, .ref xq, .ref xl, .int (iI ((ag : Nat) : Int)), .int (iI ((di : Nat) : Int))])), (h, .inr (0, [.ref a1, .ref a2, .ref a3, .int (iI ((tt : Nat) : Int)), .ref a4, .int (iI ((ln : Nat) : Int)), .ref a5, .int (iI ((ed : Nat) : Int)), .int (iI ((es : Nat) : Int)), .int (iI ((ac : Nat) : Int)), .int (iI ((cu : Nat) : Int))])), (a5, .inl (cI, 16, .inl (rN (ba))))]) S (p_refuse_ok l D cI cB cZ cO xp xc xs xq xl ag di h a1 a2 a3 a4 a5 tt ln ed es ac cu ba st1 (by first | assumption | (omega)) (by first | assumption | (omega)) (by first | assumption | (omega)) (by first | assumption | (omega)) (by first | assumption | (omega))) gX4_takeBack_X4_refusalToTakeBack rfl ⟨rfl, rfl⟩ (by decide +kernel) ⟨Nat.le_of_ble_eq_true rfl, Nat.le_of_ble_eq_true rfl⟩ hE hP [0, 1, 4] rfl 4 0 rfl rfl rfl hl.1 rfl (Nat.le_of_ble_eq_true rfl) dX4_takeBack_8 ⟨Nat.le_of_ble_eq_true rfl, Nat.le_of_ble_eq_true rfl⟩ ?_
    refine lv_istore_n (lv' := [(2, .int (iI 0)), (0, .ref xp), (1, .int (iI ((st1 : Nat) : Int)))]) hx hb dX4_takeBack_11 rfl hl (by decide) rfl (fun ls hl => ?_)
    refine lv_iload_n hx hb dX4_takeBack_12 rfl (lv_at hl 0 rfl) ?_
    refine r_if_ge (tgt := 20) hx hb (⟨by decide, by decide⟩) dX4_takeBack_13 (by decide) (fun c_2 => ?_) (fun c_2 => ?_)
    · skip
      refine lv_aload_n hx hb dX4_takeBack_20 rfl (lv_at hl 1 rfl) ?_
      refine va_get (D := D) (ci := 4) (v := .ref h) (C := RX4) (T := TX4) (N := 7) hx hb hts nX4_takeBack_X4 hown hK hP 0 rfl rfl 2 (by decide) (hts _ kX4_takeBack_28) (fun _ h9 => h9) rfl dX4_takeBack_21 ?_
      refine lv_aload_n hx hb dX4_takeBack_24 rfl (lv_at hl 1 rfl) ?_
      refine va_get (D := D) (ci := 4) (v := .ref h) (C := RX4) (T := TX4) (N := 7) hx hb hts nX4_takeBack_X4 hown hK hP 0 rfl rfl 2 (by decide) (hts _ kX4_takeBack_28) (fun _ h9 => h9) rfl dX4_takeBack_25 ?_
      refine va_getN (D := D) (ci := 0) (v := .int (iI ((ac : Nat) : Int))) (C := RX0) (T := TX0) (N := 11) hx hb hts nX4_takeBack_X0 hown hK hP 1 rfl rfl 9 (by decide) (va_Nw.use rfl (hE.2.f 19 rfl)) (fun _ h9 => h9) rfl dX4_takeBack_28 ?_
      refine lv_iload_n hx hb dX4_takeBack_31 rfl (lv_at hl 2 rfl) ?_
      refine r_iconst hx hb dX4_takeBack_32 ?_
      refine r_inot (v := (-1 - ((st1 : Nat) : Int))) hx hb (rfl) dX4_takeBack_33 ?_
      refine r_iandnot hx hb (ac) (st1) (rfl) rfl dX4_takeBack_34 ?_
      refine callVO (n := 1) (As := [.int (iI ((nd ac st1 : Nat) : Int))]) (rest := []) (wc := [(h, .inr (0, [.ref a1, .ref a2, .ref a3, .int (iI ((tt : Nat) : Int)), .ref a4, .int (iI ((ln : Nat) : Int)), .ref a5, .int (iI ((ed : Nat) : Int)), .int (iI ((es : Nat) : Int)), .int (iI ((ac : Nat) : Int)), .int (iI ((cu : Nat) : Int))])), (a2, .inl (cI, 160, .inl (rN (ow)))), (a3, .inl (cI, 160, .inl (rN (er))))]) S (c_switchTo_full l D cI cB cZ cO h a1 a2 a3 a4 a5 tt ln ed es ac cu ow er (nd ac st1) (by first | assumption | (omega)) (by first | assumption | (omega)) (by first | assumption | (omega)) (by first | assumption | (omega)) (by first | assumption | (omega))) gX4_takeBack_X0_switchTo rfl ⟨rfl, rfl⟩ (by decide +kernel) ⟨Nat.le_of_ble_eq_true rfl, Nat.le_of_ble_eq_true rfl⟩ hE hP [1, 2, 3] rfl 0 0 rfl rfl rfl hl.1 rfl (Nat.le_of_ble_eq_true rfl) dX4_takeBack_35 ⟨Nat.le_of_ble_eq_true rfl, Nat.le_of_ble_eq_true rfl⟩ ?_
      exact r_iretO hx hb hr hlocks (rfl) dX4_takeBack_38
    · skip
      exact absurd c_2 (by decide)
  · skip
    exfalso; omega

set_option maxHeartbeats 4000000 in
set_option maxRecDepth 100000 in
theorem p_takeBack (l : Launch) (D : va_G) (cI cB cZ cO : ClassId) (sz : Nat) (xp : Nat) (xc : Nat) (xs : Nat) (xq : Nat) (xl : Nat) (ag : Nat) (di : Nat) (h : Nat) (a1 : Nat) (a2 : Nat) (a3 : Nat) (a4 : Nat) (a5 : Nat) (tt : Nat) (ln : Nat) (ed : Nat) (es : Nat) (ac : Nat) (cu : Nat) (ow : Nat → Nat) (er : Nat → Nat) (ix : Nat → Nat) (ba : Nat → Nat) (st1 : Nat) (hed : ed ≤ 16) (hac : ac < 65536) (hba : ∀ k, ba k < 65536) (hst : st1 < 2 ^ ed) (hz : ¬ st1 = 0) (hok : ct ba ed ac st1) (hroom : cnt (visb ow er (nd ac st1)) tt ≤ 60) (htt : tt ≤ 160) (hix : ∀ j, ix j < 160) (hcu : cu ≤ 60) (how : ∀ k, ow k < 65536) (her : ∀ k, er k < 65536) : Met l yX4_takeBack wsX4_takeBack ({ frames := 4, cells := 0, slots := 0, locals := 85 }) (va_Pc [.ref xp, .int (iI ((st1 : Nat) : Int))] (RW D cI cB cZ cO sz [(xp, .inr (4, [.ref xc, .ref xs, .ref h, .ref xq, .ref xl, .int (iI ((ag : Nat) : Int)), .int (iI ((di : Nat) : Int))])), (h, .inr (0, [.ref a1, .ref a2, .ref a3, .int (iI ((tt : Nat) : Int)), .ref a4, .int (iI ((ln : Nat) : Int)), .ref a5, .int (iI ((ed : Nat) : Int)), .int (iI ((es : Nat) : Int)), .int (iI ((ac : Nat) : Int)), .int (iI ((cu : Nat) : Int))])), (a2, .inl (cI, 160, .inl (rN (ow)))), (a3, .inl (cI, 160, .inl (rN (er)))), (a4, .inl (cI, 60, .inl (rN (ix)))), (a5, .inl (cI, 16, .inl (rN (ba))))])) (QX D (S := (Nat → Nat)) (fun u => some (.int (iI ((cnt (visb ow er (nd ac st1)) tt : Nat) : Int)))) (fun u => (∀ j, u j < 160) ∧ (ixOK (visb ow er (nd ac st1)) tt u)) (fun u => [(xp, .inr (4, [.ref xc, .ref xs, .ref h, .ref xq, .ref xl, .int (iI ((ag : Nat) : Int)), .int (iI ((di : Nat) : Int))])), (h, .inr (0, [.ref a1, .ref a2, .ref a3, .int (iI ((tt : Nat) : Int)), .ref a4, .int (iI ((cnt (visb ow er (nd ac st1)) tt : Nat) : Int)), .ref a5, .int (iI ((ed : Nat) : Int)), .int (iI ((es : Nat) : Int)), .int (iI ((nd ac st1 : Nat) : Int)), .int (iI ((min cu (cnt (visb ow er (nd ac st1)) tt) : Nat) : Int))])), (a2, .inl (cI, 160, .inl (rN (ow)))), (a3, .inl (cI, 160, .inl (rN (er)))), (a4, .inl (cI, 60, .inl (rN (u)))), (a5, .inl (cI, 16, .inl (rN (ba))))]) (va_A [(xp, .inr (4, [.ref xc, .ref xs, .ref h, .ref xq, .ref xl, .int (iI ((ag : Nat) : Int)), .int (iI ((di : Nat) : Int))])), (h, .inr (0, [.ref a1, .ref a2, .ref a3, .int (iI ((tt : Nat) : Int)), .ref a4, .int (iI ((ln : Nat) : Int)), .ref a5, .int (iI ((ed : Nat) : Int)), .int (iI ((es : Nat) : Int)), .int (iI ((ac : Nat) : Int)), .int (iI ((cu : Nat) : Int))])), (a2, .inl (cI, 160, .inl (rN (ow)))), (a3, .inl (cI, 160, .inl (rN (er)))), (a4, .inl (cI, 60, .inl (rN (ix)))), (a5, .inl (cI, 16, .inl (rN (ba))))] sz)) 0 0 (va_A [(xp, .inr (4, [.ref xc, .ref xs, .ref h, .ref xq, .ref xl, .int (iI ((ag : Nat) : Int)), .int (iI ((di : Nat) : Int))])), (h, .inr (0, [.ref a1, .ref a2, .ref a3, .int (iI ((tt : Nat) : Int)), .ref a4, .int (iI ((ln : Nat) : Int)), .ref a5, .int (iI ((ed : Nat) : Int)), .int (iI ((es : Nat) : Int)), .int (iI ((ac : Nat) : Int)), .int (iI ((cu : Nat) : Int))])), (a2, .inl (cI, 160, .inl (rN (ow)))), (a3, .inl (cI, 160, .inl (rN (er)))), (a4, .inl (cI, 60, .inl (rN (ix)))), (a5, .inl (cI, 16, .inl (rN (ba))))] sz) := by
  refine startW (cc := cX4_takeBack) (maxL := 3) (ret := (some .int)) (by decide) rfl (Nat.le_of_ble_eq_true rfl) ?_
  intro p e s m below meth c S hr hlocks hE hP A hD hA hS ls hl
  have hx := S.1
  have hb := S.2.1
  have hown := S.2.2.2.1
  have hts := S.2.2.2.2
  have hK := hE.1
  have hl : lv_has ls 3 [(0, .ref xp), (1, .int (iI ((st1 : Nat) : Int)))] := hl
  have hp2 := pow_le16 hed
  have hnl := nd_le ac st1
  refine lv_iload_n hx hb dX4_takeBack_0 rfl (lv_at hl 1 rfl) ?_
  refine r_if_ne (tgt := 6) hx hb (by omega) dX4_takeBack_1 (by decide) (fun c_1 => ?_) (fun c_1 => ?_)
  · skip
    refine lv_aload_n hx hb dX4_takeBack_6 rfl (lv_at hl 0 rfl) ?_
    refine lv_iload_n hx hb dX4_takeBack_7 rfl (lv_at hl 1 rfl) ?_
    refine callVO (n := 1) (As := [.int (iI ((st1 : Nat) : Int))]) (rest := []) (wc := [(xp, .inr (4, [.ref xc, .ref xs, .ref h, .ref xq, .ref xl, .int (iI ((ag : Nat) : Int)), .int (iI ((di : Nat) : Int))])), (h, .inr (0, [.ref a1, .ref a2, .ref a3, .int (iI ((tt : Nat) : Int)), .ref a4, .int (iI ((ln : Nat) : Int)), .ref a5, .int (iI ((ed : Nat) : Int)), .int (iI ((es : Nat) : Int)), .int (iI ((ac : Nat) : Int)), .int (iI ((cu : Nat) : Int))])), (a5, .inl (cI, 16, .inl (rN (ba))))]) S (p_refuse_ok l D cI cB cZ cO xp xc xs xq xl ag di h a1 a2 a3 a4 a5 tt ln ed es ac cu ba st1 (by first | assumption | (omega)) (by first | assumption | (omega)) (by first | assumption | (omega)) (by first | assumption | (omega)) (by first | assumption | (omega))) gX4_takeBack_X4_refusalToTakeBack rfl ⟨rfl, rfl⟩ (by decide +kernel) ⟨Nat.le_of_ble_eq_true rfl, Nat.le_of_ble_eq_true rfl⟩ hE hP [0, 1, 5] rfl 4 0 rfl rfl rfl hl.1 rfl (Nat.le_of_ble_eq_true rfl) dX4_takeBack_8 ⟨Nat.le_of_ble_eq_true rfl, Nat.le_of_ble_eq_true rfl⟩ ?_
    refine lv_istore_n (lv' := [(2, .int (iI 0)), (0, .ref xp), (1, .int (iI ((st1 : Nat) : Int)))]) hx hb dX4_takeBack_11 rfl hl (by decide) rfl (fun ls hl => ?_)
    refine lv_iload_n hx hb dX4_takeBack_12 rfl (lv_at hl 0 rfl) ?_
    refine r_if_ge (tgt := 20) hx hb (⟨by decide, by decide⟩) dX4_takeBack_13 (by decide) (fun c_2 => ?_) (fun c_2 => ?_)
    · skip
      refine lv_aload_n hx hb dX4_takeBack_20 rfl (lv_at hl 1 rfl) ?_
      refine va_get (D := D) (ci := 4) (v := .ref h) (C := RX4) (T := TX4) (N := 7) hx hb hts nX4_takeBack_X4 hown hK hP 0 rfl rfl 2 (by decide) (hts _ kX4_takeBack_28) (fun _ h9 => h9) rfl dX4_takeBack_21 ?_
      refine lv_aload_n hx hb dX4_takeBack_24 rfl (lv_at hl 1 rfl) ?_
      refine va_get (D := D) (ci := 4) (v := .ref h) (C := RX4) (T := TX4) (N := 7) hx hb hts nX4_takeBack_X4 hown hK hP 0 rfl rfl 2 (by decide) (hts _ kX4_takeBack_28) (fun _ h9 => h9) rfl dX4_takeBack_25 ?_
      refine va_getN (D := D) (ci := 0) (v := .int (iI ((ac : Nat) : Int))) (C := RX0) (T := TX0) (N := 11) hx hb hts nX4_takeBack_X0 hown hK hP 1 rfl rfl 9 (by decide) (va_Nw.use rfl (hE.2.f 19 rfl)) (fun _ h9 => h9) rfl dX4_takeBack_28 ?_
      refine lv_iload_n hx hb dX4_takeBack_31 rfl (lv_at hl 2 rfl) ?_
      refine r_iconst hx hb dX4_takeBack_32 ?_
      refine r_inot (v := (-1 - ((st1 : Nat) : Int))) hx hb (rfl) dX4_takeBack_33 ?_
      refine r_iandnot hx hb (ac) (st1) (rfl) rfl dX4_takeBack_34 ?_
      refine callVX (n := 1) (As := [.int (iI ((nd ac st1 : Nat) : Int))]) (rest := []) (wc := [(h, .inr (0, [.ref a1, .ref a2, .ref a3, .int (iI ((tt : Nat) : Int)), .ref a4, .int (iI ((ln : Nat) : Int)), .ref a5, .int (iI ((ed : Nat) : Int)), .int (iI ((es : Nat) : Int)), .int (iI ((ac : Nat) : Int)), .int (iI ((cu : Nat) : Int))])), (a2, .inl (cI, 160, .inl (rN (ow)))), (a3, .inl (cI, 160, .inl (rN (er)))), (a4, .inl (cI, 60, .inl (rN (ix))))]) (wr := [(xp, .inr (4, [.ref xc, .ref xs, .ref h, .ref xq, .ref xl, .int (iI ((ag : Nat) : Int)), .int (iI ((di : Nat) : Int))])), (a5, .inl (cI, 16, .inl (rN (ba))))]) (ws2 := fun u => [(xp, .inr (4, [.ref xc, .ref xs, .ref h, .ref xq, .ref xl, .int (iI ((ag : Nat) : Int)), .int (iI ((di : Nat) : Int))])), (h, .inr (0, [.ref a1, .ref a2, .ref a3, .int (iI ((tt : Nat) : Int)), .ref a4, .int (iI ((cnt (visb ow er (nd ac st1)) tt : Nat) : Int)), .ref a5, .int (iI ((ed : Nat) : Int)), .int (iI ((es : Nat) : Int)), .int (iI ((nd ac st1 : Nat) : Int)), .int (iI ((min cu (cnt (visb ow er (nd ac st1)) tt) : Nat) : Int))])), (a2, .inl (cI, 160, .inl (rN (ow)))), (a3, .inl (cI, 160, .inl (rN (er)))), (a4, .inl (cI, 60, .inl (rN (u)))), (a5, .inl (cI, 16, .inl (rN (ba))))]) S hE hP hD hS hA (c_switchTo l D cI cB cZ cO s.heap.size h a1 a2 a3 a4 a5 tt ln ed es ac cu ow er ix (nd ac st1) (by first | assumption | (omega)) (by first | assumption | (omega)) (by first | assumption | (omega)) (by first | assumption | (omega)) (by first | assumption | (omega)) (by first | assumption | (omega)) (by first | assumption | (omega))) gX4_takeBack_X0_switchTo rfl ⟨rfl, rfl⟩ (by decide +kernel) ⟨Nat.le_of_ble_eq_true rfl, Nat.le_of_ble_eq_true rfl⟩ [1, 2, 3, 4] [0, 5] [0, 2, 3, 4, 5, 1] rfl (by decide) rfl (by decide) (by decide) (by decide) (fun u => rfl) 0 0 rfl rfl rfl hl.1 rfl (Nat.le_of_ble_eq_true rfl) dX4_takeBack_35 ⟨Nat.le_of_ble_eq_true rfl, Nat.le_of_ble_eq_true rfl⟩ (fun u u35p H locs hP hD hS => ?_)
      generalize u = ix2_u35 at u35p hP hD ⊢
      obtain ⟨hix2_u35, hok_u35⟩ := u35p
      have hix2_u35 : ∀ j, ix2_u35 j < 160 := hix2_u35
      have hok_u35 : ixOK (visb ow er (nd ac st1)) tt ix2_u35 := hok_u35
      have hP : va_P D vwCl [(xp, .inr (4, [.ref xc, .ref xs, .ref h, .ref xq, .ref xl, .int (iI ((ag : Nat) : Int)), .int (iI ((di : Nat) : Int))])), (h, .inr (0, [.ref a1, .ref a2, .ref a3, .int (iI ((tt : Nat) : Int)), .ref a4, .int (iI ((cnt (visb ow er (nd ac st1)) tt : Nat) : Int)), .ref a5, .int (iI ((ed : Nat) : Int)), .int (iI ((es : Nat) : Int)), .int (iI ((nd ac st1 : Nat) : Int)), .int (iI ((min cu (cnt (visb ow er (nd ac st1)) tt) : Nat) : Int))])), (a2, .inl (cI, 160, .inl (rN (ow)))), (a3, .inl (cI, 160, .inl (rN (er)))), (a4, .inl (cI, 60, .inl (rN (ix2_u35)))), (a5, .inl (cI, 16, .inl (rN (ba))))] H := hP
      have hD : va_D A [(xp, .inr (4, [.ref xc, .ref xs, .ref h, .ref xq, .ref xl, .int (iI ((ag : Nat) : Int)), .int (iI ((di : Nat) : Int))])), (h, .inr (0, [.ref a1, .ref a2, .ref a3, .int (iI ((tt : Nat) : Int)), .ref a4, .int (iI ((cnt (visb ow er (nd ac st1)) tt : Nat) : Int)), .ref a5, .int (iI ((ed : Nat) : Int)), .int (iI ((es : Nat) : Int)), .int (iI ((nd ac st1 : Nat) : Int)), .int (iI ((min cu (cnt (visb ow er (nd ac st1)) tt) : Nat) : Int))])), (a2, .inl (cI, 160, .inl (rN (ow)))), (a3, .inl (cI, 160, .inl (rN (er)))), (a4, .inl (cI, 60, .inl (rN (ix2_u35)))), (a5, .inl (cI, 16, .inl (rN (ba))))] := hD
      refine W.eq (g2 := F0 m 38 ls [.int (iI ((cnt (visb ow er (nd ac st1)) tt : Nat) : Int))]) rfl ?_
      exact r_iretX hx hb hr hlocks hP hD hS (ix2_u35) (rfl) (⟨by assumption, by assumption⟩) rfl dX4_takeBack_38
    · skip
      exact absurd c_2 (by decide)
  · skip
    exfalso; omega

set_option maxHeartbeats 4000000 in
set_option maxRecDepth 100000 in
theorem p_bringBack_zero (l : Launch) (D : va_G) (cI cB cZ cO : ClassId) (xp : Nat) (xc : Nat) (xs : Nat) (xq : Nat) (xl : Nat) (ag : Nat) (di : Nat) (h : Nat) (a1 : Nat) (a2 : Nat) (a3 : Nat) (a4 : Nat) (a5 : Nat) (tt : Nat) (ln : Nat) (ed : Nat) (es : Nat) (ac : Nat) (cu : Nat)  : Met l yX4_bringBack wsX4_bringBack ({ frames := 0, cells := 0, slots := 0, locals := 0 }) (va_Pc [.ref xp, .int (iI 0)] (RO D cI cB cZ cO [(xp, .inr (4, [.ref xc, .ref xs, .ref h, .ref xq, .ref xl, .int (iI ((ag : Nat) : Int)), .int (iI ((di : Nat) : Int))])), (h, .inr (0, [.ref a1, .ref a2, .ref a3, .int (iI ((tt : Nat) : Int)), .ref a4, .int (iI ((ln : Nat) : Int)), .ref a5, .int (iI ((ed : Nat) : Int)), .int (iI ((es : Nat) : Int)), .int (iI ((ac : Nat) : Int)), .int (iI ((cu : Nat) : Int))]))])) (QO (-1)) 0 0 (fun _ => False) := by
  refine startO (cc := cX4_bringBack) (maxL := 2) (ret := (some .int)) (by decide) rfl (Nat.le_of_ble_eq_true rfl) ?_
  intro p e s m below meth c S hr hlocks hE hP ls hl
  have hx := S.1
  have hb := S.2.1
  have hown := S.2.2.2.1
  have hts := S.2.2.2.2
  have hK := hE.1
  have hl : lv_has ls 2 [(0, .ref xp), (1, .int (iI 0))] := hl
  refine lv_iload_n hx hb dX4_bringBack_0 rfl (lv_at hl 1 rfl) ?_
  refine r_if_eq (tgt := 15) hx hb (⟨by decide, by decide⟩) dX4_bringBack_1 (by decide) (fun c_1 => ?_) (fun c_1 => ?_)
  · skip
    refine r_iconst hx hb dX4_bringBack_15 ?_
    exact r_iretO hx hb hr hlocks (rfl) dX4_bringBack_16
  · skip
    exact absurd c_1 (by decide)

theorem kX4_bringBack_28 : Cond.fieldLink RX4 28 "PricedUndo" "buffer" "LPricedUndo$Buffer;" ∈ wsX4_bringBack := by decide +kernel
theorem nX4_bringBack_X4 : ∀ w ∈ u_ws RX4 TX4 7, w ∈ wsX4_bringBack := by decide +kernel
set_option maxHeartbeats 4000000 in
set_option maxRecDepth 100000 in
theorem p_bringBack_bad (l : Launch) (D : va_G) (cI cB cZ cO : ClassId) (xp : Nat) (xc : Nat) (xs : Nat) (xq : Nat) (xl : Nat) (ag : Nat) (di : Nat) (h : Nat) (a1 : Nat) (a2 : Nat) (a3 : Nat) (a4 : Nat) (a5 : Nat) (tt : Nat) (ln : Nat) (ed : Nat) (es : Nat) (ac : Nat) (cu : Nat) (x : Int) (hed : ed ≤ 16) (rx : rg x) (hbad : ¬ (0 ≤ x ∧ x < ((2 ^ ed : Nat) : Int))) : Met l yX4_bringBack wsX4_bringBack ({ frames := 1, cells := 0, slots := 0, locals := 21 }) (va_Pc [.ref xp, .int (iI (x))] (RO D cI cB cZ cO [(xp, .inr (4, [.ref xc, .ref xs, .ref h, .ref xq, .ref xl, .int (iI ((ag : Nat) : Int)), .int (iI ((di : Nat) : Int))])), (h, .inr (0, [.ref a1, .ref a2, .ref a3, .int (iI ((tt : Nat) : Int)), .ref a4, .int (iI ((ln : Nat) : Int)), .ref a5, .int (iI ((ed : Nat) : Int)), .int (iI ((es : Nat) : Int)), .int (iI ((ac : Nat) : Int)), .int (iI ((cu : Nat) : Int))]))])) (QO (-1)) 0 0 (fun _ => False) := by
  refine startO (cc := cX4_bringBack) (maxL := 2) (ret := (some .int)) (by decide) rfl (Nat.le_of_ble_eq_true rfl) ?_
  intro p e s m below meth c S hr hlocks hE hP ls hl
  have hx := S.1
  have hb := S.2.1
  have hown := S.2.2.2.1
  have hts := S.2.2.2.2
  have hK := hE.1
  have hl : lv_has ls 2 [(0, .ref xp), (1, .int (iI (x)))] := hl
  refine lv_iload_n hx hb dX4_bringBack_0 rfl (lv_at hl 1 rfl) ?_
  refine r_if_eq (tgt := 15) hx hb (by omega) dX4_bringBack_1 (by decide) (fun c_1 => ?_) (fun c_1 => ?_)
  · skip
    refine r_iconst hx hb dX4_bringBack_15 ?_
    exact r_iretO hx hb hr hlocks (rfl) dX4_bringBack_16
  · skip
    refine lv_aload_n hx hb dX4_bringBack_4 rfl (lv_at hl 0 rfl) ?_
    refine va_get (D := D) (ci := 4) (v := .ref h) (C := RX4) (T := TX4) (N := 7) hx hb hts nX4_bringBack_X4 hown hK hP 0 rfl rfl 2 (by decide) (hts _ kX4_bringBack_28) (fun _ h9 => h9) rfl dX4_bringBack_5 ?_
    refine lv_iload_n hx hb dX4_bringBack_8 rfl (lv_at hl 1 rfl) ?_
    refine callVO (n := 1) (As := [.int (iI (x))]) (rest := []) (wc := [(h, .inr (0, [.ref a1, .ref a2, .ref a3, .int (iI ((tt : Nat) : Int)), .ref a4, .int (iI ((ln : Nat) : Int)), .ref a5, .int (iI ((ed : Nat) : Int)), .int (iI ((es : Nat) : Int)), .int (iI ((ac : Nat) : Int)), .int (iI ((cu : Nat) : Int))]))]) S (c_hasEdits l D cI cB cZ cO h a1 a2 a3 a4 a5 tt ln ed es ac cu x (by first | assumption | (omega)) (by first | assumption | (omega))) gX4_bringBack_X0_hasEdits rfl ⟨rfl, rfl⟩ (by decide +kernel) ⟨Nat.le_of_ble_eq_true rfl, Nat.le_of_ble_eq_true rfl⟩ hE hP [1] rfl 0 0 rfl rfl rfl hl.1 rfl (Nat.le_of_ble_eq_true rfl) dX4_bringBack_9 ⟨Nat.le_of_ble_eq_true rfl, Nat.le_of_ble_eq_true rfl⟩ ?_
    refine r_ifb_ne (tgt := 17) hx hb dX4_bringBack_12 (by decide) (fun c_2 => ?_) (fun c_2 => ?_)
    · skip
      exfalso; exact hbad (by assumption)
    · skip
      refine r_iconst hx hb dX4_bringBack_15 ?_
      exact r_iretO hx hb hr hlocks (rfl) dX4_bringBack_16

set_option maxHeartbeats 4000000 in
set_option maxRecDepth 100000 in
theorem p_bringBack_no (l : Launch) (D : va_G) (cI cB cZ cO : ClassId) (xp : Nat) (xc : Nat) (xs : Nat) (xq : Nat) (xl : Nat) (ag : Nat) (di : Nat) (h : Nat) (a1 : Nat) (a2 : Nat) (a3 : Nat) (a4 : Nat) (a5 : Nat) (tt : Nat) (ln : Nat) (ed : Nat) (es : Nat) (ac : Nat) (cu : Nat) (ba : Nat → Nat) (st1 : Nat) (hed : ed ≤ 16) (hac : ac < 65536) (hba : ∀ k, ba k < 65536) (hst : st1 < 2 ^ ed) (hz : ¬ st1 = 0) (hno : ¬ (st1 &&& ac = 0 ∧ nd (nee ba st1 ed) (ac ||| st1) = 0)) : Met l yX4_bringBack wsX4_bringBack ({ frames := 2, cells := 0, slots := 0, locals := 44 }) (va_Pc [.ref xp, .int (iI ((st1 : Nat) : Int))] (RO D cI cB cZ cO [(xp, .inr (4, [.ref xc, .ref xs, .ref h, .ref xq, .ref xl, .int (iI ((ag : Nat) : Int)), .int (iI ((di : Nat) : Int))])), (h, .inr (0, [.ref a1, .ref a2, .ref a3, .int (iI ((tt : Nat) : Int)), .ref a4, .int (iI ((ln : Nat) : Int)), .ref a5, .int (iI ((ed : Nat) : Int)), .int (iI ((es : Nat) : Int)), .int (iI ((ac : Nat) : Int)), .int (iI ((cu : Nat) : Int))])), (a5, .inl (cI, 16, .inl (rN (ba))))])) (QO (-2)) 0 0 (fun _ => False) := by
  refine startO (cc := cX4_bringBack) (maxL := 2) (ret := (some .int)) (by decide) rfl (Nat.le_of_ble_eq_true rfl) ?_
  intro p e s m below meth c S hr hlocks hE hP ls hl
  have hx := S.1
  have hb := S.2.1
  have hown := S.2.2.2.1
  have hts := S.2.2.2.2
  have hK := hE.1
  have hl : lv_has ls 2 [(0, .ref xp), (1, .int (iI ((st1 : Nat) : Int)))] := hl
  have hp2 := pow_le16 hed
  have hno1 : st1 < 65536 → ac ||| st1 < 65536 := fun h => or16 hac h
  refine lv_iload_n hx hb dX4_bringBack_0 rfl (lv_at hl 1 rfl) ?_
  refine r_if_eq (tgt := 15) hx hb (by omega) dX4_bringBack_1 (by decide) (fun c_1 => ?_) (fun c_1 => ?_)
  · skip
    exfalso; omega
  · skip
    refine lv_aload_n hx hb dX4_bringBack_4 rfl (lv_at hl 0 rfl) ?_
    refine va_get (D := D) (ci := 4) (v := .ref h) (C := RX4) (T := TX4) (N := 7) hx hb hts nX4_bringBack_X4 hown hK hP 0 rfl rfl 2 (by decide) (hts _ kX4_bringBack_28) (fun _ h9 => h9) rfl dX4_bringBack_5 ?_
    refine lv_iload_n hx hb dX4_bringBack_8 rfl (lv_at hl 1 rfl) ?_
    refine callVO (n := 1) (As := [.int (iI ((st1 : Nat) : Int))]) (rest := []) (wc := [(h, .inr (0, [.ref a1, .ref a2, .ref a3, .int (iI ((tt : Nat) : Int)), .ref a4, .int (iI ((ln : Nat) : Int)), .ref a5, .int (iI ((ed : Nat) : Int)), .int (iI ((es : Nat) : Int)), .int (iI ((ac : Nat) : Int)), .int (iI ((cu : Nat) : Int))]))]) S (c_hasEdits l D cI cB cZ cO h a1 a2 a3 a4 a5 tt ln ed es ac cu (((st1 : Nat) : Int)) (by first | assumption | (omega)) (by first | assumption | (omega))) gX4_bringBack_X0_hasEdits rfl ⟨rfl, rfl⟩ (by decide +kernel) ⟨Nat.le_of_ble_eq_true rfl, Nat.le_of_ble_eq_true rfl⟩ hE hP [1] rfl 0 0 rfl rfl rfl hl.1 rfl (Nat.le_of_ble_eq_true rfl) dX4_bringBack_9 ⟨Nat.le_of_ble_eq_true rfl, Nat.le_of_ble_eq_true rfl⟩ ?_
    refine r_ifb_ne (tgt := 17) hx hb dX4_bringBack_12 (by decide) (fun c_2 => ?_) (fun c_2 => ?_)
    · skip
      refine lv_aload_n hx hb dX4_bringBack_17 rfl (lv_at hl 0 rfl) ?_
      refine va_get (D := D) (ci := 4) (v := .ref h) (C := RX4) (T := TX4) (N := 7) hx hb hts nX4_bringBack_X4 hown hK hP 0 rfl rfl 2 (by decide) (hts _ kX4_bringBack_28) (fun _ h9 => h9) rfl dX4_bringBack_18 ?_
      refine lv_iload_n hx hb dX4_bringBack_21 rfl (lv_at hl 1 rfl) ?_
      refine callVO (n := 1) (As := [.int (iI ((st1 : Nat) : Int))]) (rest := []) (wc := [(h, .inr (0, [.ref a1, .ref a2, .ref a3, .int (iI ((tt : Nat) : Int)), .ref a4, .int (iI ((ln : Nat) : Int)), .ref a5, .int (iI ((ed : Nat) : Int)), .int (iI ((es : Nat) : Int)), .int (iI ((ac : Nat) : Int)), .int (iI ((cu : Nat) : Int))])), (a5, .inl (cI, 16, .inl (rN (ba))))]) S (c_canBringBack l D cI cB cZ cO h a1 a2 a3 a4 a5 tt ln ed es ac cu ba st1 (by first | assumption | (omega)) (by first | assumption | (omega)) (by first | assumption | (omega)) (by first | assumption | (omega))) gX4_bringBack_X0_canBringBack rfl ⟨rfl, rfl⟩ (by decide +kernel) ⟨Nat.le_of_ble_eq_true rfl, Nat.le_of_ble_eq_true rfl⟩ hE hP [1, 2] rfl 0 0 rfl rfl rfl hl.1 rfl (Nat.le_of_ble_eq_true rfl) dX4_bringBack_22 ⟨Nat.le_of_ble_eq_true rfl, Nat.le_of_ble_eq_true rfl⟩ ?_
      refine r_ifb_ne (tgt := 31) hx hb dX4_bringBack_25 (by decide) (fun c_3 => ?_) (fun c_3 => ?_)
      · skip
        exfalso; exact hno (by assumption)
      · skip
        refine r_bipush hx hb dX4_bringBack_28 (by decide) ?_
        exact r_iretO hx hb hr hlocks (rfl) dX4_bringBack_30
    · skip
      exfalso; omega

theorem nX4_bringBack_X0 : ∀ w ∈ u_ws RX0 TX0 11, w ∈ wsX4_bringBack := by decide +kernel
set_option maxHeartbeats 4000000 in
set_option maxRecDepth 100000 in
theorem p_bringBack_full (l : Launch) (D : va_G) (cI cB cZ cO : ClassId) (xp : Nat) (xc : Nat) (xs : Nat) (xq : Nat) (xl : Nat) (ag : Nat) (di : Nat) (h : Nat) (a1 : Nat) (a2 : Nat) (a3 : Nat) (a4 : Nat) (a5 : Nat) (tt : Nat) (ln : Nat) (ed : Nat) (es : Nat) (ac : Nat) (cu : Nat) (ow : Nat → Nat) (er : Nat → Nat) (ba : Nat → Nat) (st1 : Nat) (hed : ed ≤ 16) (hac : ac < 65536) (hba : ∀ k, ba k < 65536) (hst : st1 < 2 ^ ed) (hz : ¬ st1 = 0) (hok : st1 &&& ac = 0 ∧ nd (nee ba st1 ed) (ac ||| st1) = 0) (htt : tt ≤ 160) (hfull : 60 < cnt (visb ow er (ac ||| st1)) tt) (how : ∀ k, ow k < 65536) (her : ∀ k, er k < 65536) : Met l yX4_bringBack wsX4_bringBack ({ frames := 3, cells := 0, slots := 0, locals := 67 }) (va_Pc [.ref xp, .int (iI ((st1 : Nat) : Int))] (RO D cI cB cZ cO [(xp, .inr (4, [.ref xc, .ref xs, .ref h, .ref xq, .ref xl, .int (iI ((ag : Nat) : Int)), .int (iI ((di : Nat) : Int))])), (h, .inr (0, [.ref a1, .ref a2, .ref a3, .int (iI ((tt : Nat) : Int)), .ref a4, .int (iI ((ln : Nat) : Int)), .ref a5, .int (iI ((ed : Nat) : Int)), .int (iI ((es : Nat) : Int)), .int (iI ((ac : Nat) : Int)), .int (iI ((cu : Nat) : Int))])), (a2, .inl (cI, 160, .inl (rN (ow)))), (a3, .inl (cI, 160, .inl (rN (er)))), (a5, .inl (cI, 16, .inl (rN (ba))))])) (QO (-3)) 0 0 (fun _ => False) := by
  refine startO (cc := cX4_bringBack) (maxL := 2) (ret := (some .int)) (by decide) rfl (Nat.le_of_ble_eq_true rfl) ?_
  intro p e s m below meth c S hr hlocks hE hP ls hl
  have hx := S.1
  have hb := S.2.1
  have hown := S.2.2.2.1
  have hts := S.2.2.2.2
  have hK := hE.1
  have hl : lv_has ls 2 [(0, .ref xp), (1, .int (iI ((st1 : Nat) : Int)))] := hl
  have hp2 := pow_le16 hed
  have hno1 : st1 < 65536 → ac ||| st1 < 65536 := fun h => or16 hac h
  refine lv_iload_n hx hb dX4_bringBack_0 rfl (lv_at hl 1 rfl) ?_
  refine r_if_eq (tgt := 15) hx hb (by omega) dX4_bringBack_1 (by decide) (fun c_1 => ?_) (fun c_1 => ?_)
  · skip
    exfalso; omega
  · skip
    refine lv_aload_n hx hb dX4_bringBack_4 rfl (lv_at hl 0 rfl) ?_
    refine va_get (D := D) (ci := 4) (v := .ref h) (C := RX4) (T := TX4) (N := 7) hx hb hts nX4_bringBack_X4 hown hK hP 0 rfl rfl 2 (by decide) (hts _ kX4_bringBack_28) (fun _ h9 => h9) rfl dX4_bringBack_5 ?_
    refine lv_iload_n hx hb dX4_bringBack_8 rfl (lv_at hl 1 rfl) ?_
    refine callVO (n := 1) (As := [.int (iI ((st1 : Nat) : Int))]) (rest := []) (wc := [(h, .inr (0, [.ref a1, .ref a2, .ref a3, .int (iI ((tt : Nat) : Int)), .ref a4, .int (iI ((ln : Nat) : Int)), .ref a5, .int (iI ((ed : Nat) : Int)), .int (iI ((es : Nat) : Int)), .int (iI ((ac : Nat) : Int)), .int (iI ((cu : Nat) : Int))]))]) S (c_hasEdits l D cI cB cZ cO h a1 a2 a3 a4 a5 tt ln ed es ac cu (((st1 : Nat) : Int)) (by first | assumption | (omega)) (by first | assumption | (omega))) gX4_bringBack_X0_hasEdits rfl ⟨rfl, rfl⟩ (by decide +kernel) ⟨Nat.le_of_ble_eq_true rfl, Nat.le_of_ble_eq_true rfl⟩ hE hP [1] rfl 0 0 rfl rfl rfl hl.1 rfl (Nat.le_of_ble_eq_true rfl) dX4_bringBack_9 ⟨Nat.le_of_ble_eq_true rfl, Nat.le_of_ble_eq_true rfl⟩ ?_
    refine r_ifb_ne (tgt := 17) hx hb dX4_bringBack_12 (by decide) (fun c_2 => ?_) (fun c_2 => ?_)
    · skip
      refine lv_aload_n hx hb dX4_bringBack_17 rfl (lv_at hl 0 rfl) ?_
      refine va_get (D := D) (ci := 4) (v := .ref h) (C := RX4) (T := TX4) (N := 7) hx hb hts nX4_bringBack_X4 hown hK hP 0 rfl rfl 2 (by decide) (hts _ kX4_bringBack_28) (fun _ h9 => h9) rfl dX4_bringBack_18 ?_
      refine lv_iload_n hx hb dX4_bringBack_21 rfl (lv_at hl 1 rfl) ?_
      refine callVO (n := 1) (As := [.int (iI ((st1 : Nat) : Int))]) (rest := []) (wc := [(h, .inr (0, [.ref a1, .ref a2, .ref a3, .int (iI ((tt : Nat) : Int)), .ref a4, .int (iI ((ln : Nat) : Int)), .ref a5, .int (iI ((ed : Nat) : Int)), .int (iI ((es : Nat) : Int)), .int (iI ((ac : Nat) : Int)), .int (iI ((cu : Nat) : Int))])), (a5, .inl (cI, 16, .inl (rN (ba))))]) S (c_canBringBack l D cI cB cZ cO h a1 a2 a3 a4 a5 tt ln ed es ac cu ba st1 (by first | assumption | (omega)) (by first | assumption | (omega)) (by first | assumption | (omega)) (by first | assumption | (omega))) gX4_bringBack_X0_canBringBack rfl ⟨rfl, rfl⟩ (by decide +kernel) ⟨Nat.le_of_ble_eq_true rfl, Nat.le_of_ble_eq_true rfl⟩ hE hP [1, 4] rfl 0 0 rfl rfl rfl hl.1 rfl (Nat.le_of_ble_eq_true rfl) dX4_bringBack_22 ⟨Nat.le_of_ble_eq_true rfl, Nat.le_of_ble_eq_true rfl⟩ ?_
      refine r_ifb_ne (tgt := 31) hx hb dX4_bringBack_25 (by decide) (fun c_3 => ?_) (fun c_3 => ?_)
      · skip
        refine lv_aload_n hx hb dX4_bringBack_31 rfl (lv_at hl 0 rfl) ?_
        refine va_get (D := D) (ci := 4) (v := .ref h) (C := RX4) (T := TX4) (N := 7) hx hb hts nX4_bringBack_X4 hown hK hP 0 rfl rfl 2 (by decide) (hts _ kX4_bringBack_28) (fun _ h9 => h9) rfl dX4_bringBack_32 ?_
        refine lv_aload_n hx hb dX4_bringBack_35 rfl (lv_at hl 0 rfl) ?_
        refine va_get (D := D) (ci := 4) (v := .ref h) (C := RX4) (T := TX4) (N := 7) hx hb hts nX4_bringBack_X4 hown hK hP 0 rfl rfl 2 (by decide) (hts _ kX4_bringBack_28) (fun _ h9 => h9) rfl dX4_bringBack_36 ?_
        refine va_getN (D := D) (ci := 0) (v := .int (iI ((ac : Nat) : Int))) (C := RX0) (T := TX0) (N := 11) hx hb hts nX4_bringBack_X0 hown hK hP 1 rfl rfl 9 (by decide) (va_Nw.use rfl (hE.2.f 19 rfl)) (fun _ h9 => h9) rfl dX4_bringBack_39 ?_
        refine lv_iload_n hx hb dX4_bringBack_42 rfl (lv_at hl 1 rfl) ?_
        refine r_ior hx hb (ac) (st1) (rfl) (rfl) dX4_bringBack_43 ?_
        refine callVO (n := 1) (As := [.int (iI ((ac ||| st1 : Nat) : Int))]) (rest := []) (wc := [(h, .inr (0, [.ref a1, .ref a2, .ref a3, .int (iI ((tt : Nat) : Int)), .ref a4, .int (iI ((ln : Nat) : Int)), .ref a5, .int (iI ((ed : Nat) : Int)), .int (iI ((es : Nat) : Int)), .int (iI ((ac : Nat) : Int)), .int (iI ((cu : Nat) : Int))])), (a2, .inl (cI, 160, .inl (rN (ow)))), (a3, .inl (cI, 160, .inl (rN (er))))]) S (c_switchTo_full l D cI cB cZ cO h a1 a2 a3 a4 a5 tt ln ed es ac cu ow er (ac ||| st1) (by first | assumption | (omega)) (by first | assumption | (omega)) (by first | assumption | (omega)) (by first | assumption | (omega)) (by first | assumption | (omega))) gX4_bringBack_X0_switchTo rfl ⟨rfl, rfl⟩ (by decide +kernel) ⟨Nat.le_of_ble_eq_true rfl, Nat.le_of_ble_eq_true rfl⟩ hE hP [1, 2, 3] rfl 0 0 rfl rfl rfl hl.1 rfl (Nat.le_of_ble_eq_true rfl) dX4_bringBack_44 ⟨Nat.le_of_ble_eq_true rfl, Nat.le_of_ble_eq_true rfl⟩ ?_
        exact r_iretO hx hb hr hlocks (rfl) dX4_bringBack_47
      · skip
        exfalso; exact absurd hok (by assumption)
    · skip
      exfalso; omega

set_option maxHeartbeats 4000000 in
set_option maxRecDepth 100000 in
theorem p_bringBack (l : Launch) (D : va_G) (cI cB cZ cO : ClassId) (sz : Nat) (xp : Nat) (xc : Nat) (xs : Nat) (xq : Nat) (xl : Nat) (ag : Nat) (di : Nat) (h : Nat) (a1 : Nat) (a2 : Nat) (a3 : Nat) (a4 : Nat) (a5 : Nat) (tt : Nat) (ln : Nat) (ed : Nat) (es : Nat) (ac : Nat) (cu : Nat) (ow : Nat → Nat) (er : Nat → Nat) (ix : Nat → Nat) (ba : Nat → Nat) (st1 : Nat) (hed : ed ≤ 16) (hac : ac < 65536) (hba : ∀ k, ba k < 65536) (hst : st1 < 2 ^ ed) (hz : ¬ st1 = 0) (hok : st1 &&& ac = 0 ∧ nd (nee ba st1 ed) (ac ||| st1) = 0) (hroom : cnt (visb ow er (ac ||| st1)) tt ≤ 60) (htt : tt ≤ 160) (hix : ∀ j, ix j < 160) (hcu : cu ≤ 60) (how : ∀ k, ow k < 65536) (her : ∀ k, er k < 65536) : Met l yX4_bringBack wsX4_bringBack ({ frames := 3, cells := 0, slots := 0, locals := 67 }) (va_Pc [.ref xp, .int (iI ((st1 : Nat) : Int))] (RW D cI cB cZ cO sz [(xp, .inr (4, [.ref xc, .ref xs, .ref h, .ref xq, .ref xl, .int (iI ((ag : Nat) : Int)), .int (iI ((di : Nat) : Int))])), (h, .inr (0, [.ref a1, .ref a2, .ref a3, .int (iI ((tt : Nat) : Int)), .ref a4, .int (iI ((ln : Nat) : Int)), .ref a5, .int (iI ((ed : Nat) : Int)), .int (iI ((es : Nat) : Int)), .int (iI ((ac : Nat) : Int)), .int (iI ((cu : Nat) : Int))])), (a2, .inl (cI, 160, .inl (rN (ow)))), (a3, .inl (cI, 160, .inl (rN (er)))), (a4, .inl (cI, 60, .inl (rN (ix)))), (a5, .inl (cI, 16, .inl (rN (ba))))])) (QX D (S := (Nat → Nat)) (fun u => some (.int (iI ((cnt (visb ow er (ac ||| st1)) tt : Nat) : Int)))) (fun u => (∀ j, u j < 160) ∧ (ixOK (visb ow er (ac ||| st1)) tt u)) (fun u => [(xp, .inr (4, [.ref xc, .ref xs, .ref h, .ref xq, .ref xl, .int (iI ((ag : Nat) : Int)), .int (iI ((di : Nat) : Int))])), (h, .inr (0, [.ref a1, .ref a2, .ref a3, .int (iI ((tt : Nat) : Int)), .ref a4, .int (iI ((cnt (visb ow er (ac ||| st1)) tt : Nat) : Int)), .ref a5, .int (iI ((ed : Nat) : Int)), .int (iI ((es : Nat) : Int)), .int (iI ((ac ||| st1 : Nat) : Int)), .int (iI ((min cu (cnt (visb ow er (ac ||| st1)) tt) : Nat) : Int))])), (a2, .inl (cI, 160, .inl (rN (ow)))), (a3, .inl (cI, 160, .inl (rN (er)))), (a4, .inl (cI, 60, .inl (rN (u)))), (a5, .inl (cI, 16, .inl (rN (ba))))]) (va_A [(xp, .inr (4, [.ref xc, .ref xs, .ref h, .ref xq, .ref xl, .int (iI ((ag : Nat) : Int)), .int (iI ((di : Nat) : Int))])), (h, .inr (0, [.ref a1, .ref a2, .ref a3, .int (iI ((tt : Nat) : Int)), .ref a4, .int (iI ((ln : Nat) : Int)), .ref a5, .int (iI ((ed : Nat) : Int)), .int (iI ((es : Nat) : Int)), .int (iI ((ac : Nat) : Int)), .int (iI ((cu : Nat) : Int))])), (a2, .inl (cI, 160, .inl (rN (ow)))), (a3, .inl (cI, 160, .inl (rN (er)))), (a4, .inl (cI, 60, .inl (rN (ix)))), (a5, .inl (cI, 16, .inl (rN (ba))))] sz)) 0 0 (va_A [(xp, .inr (4, [.ref xc, .ref xs, .ref h, .ref xq, .ref xl, .int (iI ((ag : Nat) : Int)), .int (iI ((di : Nat) : Int))])), (h, .inr (0, [.ref a1, .ref a2, .ref a3, .int (iI ((tt : Nat) : Int)), .ref a4, .int (iI ((ln : Nat) : Int)), .ref a5, .int (iI ((ed : Nat) : Int)), .int (iI ((es : Nat) : Int)), .int (iI ((ac : Nat) : Int)), .int (iI ((cu : Nat) : Int))])), (a2, .inl (cI, 160, .inl (rN (ow)))), (a3, .inl (cI, 160, .inl (rN (er)))), (a4, .inl (cI, 60, .inl (rN (ix)))), (a5, .inl (cI, 16, .inl (rN (ba))))] sz) := by
  refine startW (cc := cX4_bringBack) (maxL := 2) (ret := (some .int)) (by decide) rfl (Nat.le_of_ble_eq_true rfl) ?_
  intro p e s m below meth c S hr hlocks hE hP A hD hA hS ls hl
  have hx := S.1
  have hb := S.2.1
  have hown := S.2.2.2.1
  have hts := S.2.2.2.2
  have hK := hE.1
  have hl : lv_has ls 2 [(0, .ref xp), (1, .int (iI ((st1 : Nat) : Int)))] := hl
  have hp2 := pow_le16 hed
  have hno1 : st1 < 65536 → ac ||| st1 < 65536 := fun h => or16 hac h
  refine lv_iload_n hx hb dX4_bringBack_0 rfl (lv_at hl 1 rfl) ?_
  refine r_if_eq (tgt := 15) hx hb (by omega) dX4_bringBack_1 (by decide) (fun c_1 => ?_) (fun c_1 => ?_)
  · skip
    exfalso; omega
  · skip
    refine lv_aload_n hx hb dX4_bringBack_4 rfl (lv_at hl 0 rfl) ?_
    refine va_get (D := D) (ci := 4) (v := .ref h) (C := RX4) (T := TX4) (N := 7) hx hb hts nX4_bringBack_X4 hown hK hP 0 rfl rfl 2 (by decide) (hts _ kX4_bringBack_28) (fun _ h9 => h9) rfl dX4_bringBack_5 ?_
    refine lv_iload_n hx hb dX4_bringBack_8 rfl (lv_at hl 1 rfl) ?_
    refine callVO (n := 1) (As := [.int (iI ((st1 : Nat) : Int))]) (rest := []) (wc := [(h, .inr (0, [.ref a1, .ref a2, .ref a3, .int (iI ((tt : Nat) : Int)), .ref a4, .int (iI ((ln : Nat) : Int)), .ref a5, .int (iI ((ed : Nat) : Int)), .int (iI ((es : Nat) : Int)), .int (iI ((ac : Nat) : Int)), .int (iI ((cu : Nat) : Int))]))]) S (c_hasEdits l D cI cB cZ cO h a1 a2 a3 a4 a5 tt ln ed es ac cu (((st1 : Nat) : Int)) (by first | assumption | (omega)) (by first | assumption | (omega))) gX4_bringBack_X0_hasEdits rfl ⟨rfl, rfl⟩ (by decide +kernel) ⟨Nat.le_of_ble_eq_true rfl, Nat.le_of_ble_eq_true rfl⟩ hE hP [1] rfl 0 0 rfl rfl rfl hl.1 rfl (Nat.le_of_ble_eq_true rfl) dX4_bringBack_9 ⟨Nat.le_of_ble_eq_true rfl, Nat.le_of_ble_eq_true rfl⟩ ?_
    refine r_ifb_ne (tgt := 17) hx hb dX4_bringBack_12 (by decide) (fun c_2 => ?_) (fun c_2 => ?_)
    · skip
      refine lv_aload_n hx hb dX4_bringBack_17 rfl (lv_at hl 0 rfl) ?_
      refine va_get (D := D) (ci := 4) (v := .ref h) (C := RX4) (T := TX4) (N := 7) hx hb hts nX4_bringBack_X4 hown hK hP 0 rfl rfl 2 (by decide) (hts _ kX4_bringBack_28) (fun _ h9 => h9) rfl dX4_bringBack_18 ?_
      refine lv_iload_n hx hb dX4_bringBack_21 rfl (lv_at hl 1 rfl) ?_
      refine callVO (n := 1) (As := [.int (iI ((st1 : Nat) : Int))]) (rest := []) (wc := [(h, .inr (0, [.ref a1, .ref a2, .ref a3, .int (iI ((tt : Nat) : Int)), .ref a4, .int (iI ((ln : Nat) : Int)), .ref a5, .int (iI ((ed : Nat) : Int)), .int (iI ((es : Nat) : Int)), .int (iI ((ac : Nat) : Int)), .int (iI ((cu : Nat) : Int))])), (a5, .inl (cI, 16, .inl (rN (ba))))]) S (c_canBringBack l D cI cB cZ cO h a1 a2 a3 a4 a5 tt ln ed es ac cu ba st1 (by first | assumption | (omega)) (by first | assumption | (omega)) (by first | assumption | (omega)) (by first | assumption | (omega))) gX4_bringBack_X0_canBringBack rfl ⟨rfl, rfl⟩ (by decide +kernel) ⟨Nat.le_of_ble_eq_true rfl, Nat.le_of_ble_eq_true rfl⟩ hE hP [1, 5] rfl 0 0 rfl rfl rfl hl.1 rfl (Nat.le_of_ble_eq_true rfl) dX4_bringBack_22 ⟨Nat.le_of_ble_eq_true rfl, Nat.le_of_ble_eq_true rfl⟩ ?_
      refine r_ifb_ne (tgt := 31) hx hb dX4_bringBack_25 (by decide) (fun c_3 => ?_) (fun c_3 => ?_)
      · skip
        refine lv_aload_n hx hb dX4_bringBack_31 rfl (lv_at hl 0 rfl) ?_
        refine va_get (D := D) (ci := 4) (v := .ref h) (C := RX4) (T := TX4) (N := 7) hx hb hts nX4_bringBack_X4 hown hK hP 0 rfl rfl 2 (by decide) (hts _ kX4_bringBack_28) (fun _ h9 => h9) rfl dX4_bringBack_32 ?_
        refine lv_aload_n hx hb dX4_bringBack_35 rfl (lv_at hl 0 rfl) ?_
        refine va_get (D := D) (ci := 4) (v := .ref h) (C := RX4) (T := TX4) (N := 7) hx hb hts nX4_bringBack_X4 hown hK hP 0 rfl rfl 2 (by decide) (hts _ kX4_bringBack_28) (fun _ h9 => h9) rfl dX4_bringBack_36 ?_
        refine va_getN (D := D) (ci := 0) (v := .int (iI ((ac : Nat) : Int))) (C := RX0) (T := TX0) (N := 11) hx hb hts nX4_bringBack_X0 hown hK hP 1 rfl rfl 9 (by decide) (va_Nw.use rfl (hE.2.f 19 rfl)) (fun _ h9 => h9) rfl dX4_bringBack_39 ?_
        refine lv_iload_n hx hb dX4_bringBack_42 rfl (lv_at hl 1 rfl) ?_
        refine r_ior hx hb (ac) (st1) (rfl) (rfl) dX4_bringBack_43 ?_
        refine callVX (n := 1) (As := [.int (iI ((ac ||| st1 : Nat) : Int))]) (rest := []) (wc := [(h, .inr (0, [.ref a1, .ref a2, .ref a3, .int (iI ((tt : Nat) : Int)), .ref a4, .int (iI ((ln : Nat) : Int)), .ref a5, .int (iI ((ed : Nat) : Int)), .int (iI ((es : Nat) : Int)), .int (iI ((ac : Nat) : Int)), .int (iI ((cu : Nat) : Int))])), (a2, .inl (cI, 160, .inl (rN (ow)))), (a3, .inl (cI, 160, .inl (rN (er)))), (a4, .inl (cI, 60, .inl (rN (ix))))]) (wr := [(xp, .inr (4, [.ref xc, .ref xs, .ref h, .ref xq, .ref xl, .int (iI ((ag : Nat) : Int)), .int (iI ((di : Nat) : Int))])), (a5, .inl (cI, 16, .inl (rN (ba))))]) (ws2 := fun u => [(xp, .inr (4, [.ref xc, .ref xs, .ref h, .ref xq, .ref xl, .int (iI ((ag : Nat) : Int)), .int (iI ((di : Nat) : Int))])), (h, .inr (0, [.ref a1, .ref a2, .ref a3, .int (iI ((tt : Nat) : Int)), .ref a4, .int (iI ((cnt (visb ow er (ac ||| st1)) tt : Nat) : Int)), .ref a5, .int (iI ((ed : Nat) : Int)), .int (iI ((es : Nat) : Int)), .int (iI ((ac ||| st1 : Nat) : Int)), .int (iI ((min cu (cnt (visb ow er (ac ||| st1)) tt) : Nat) : Int))])), (a2, .inl (cI, 160, .inl (rN (ow)))), (a3, .inl (cI, 160, .inl (rN (er)))), (a4, .inl (cI, 60, .inl (rN (u)))), (a5, .inl (cI, 16, .inl (rN (ba))))]) S hE hP hD hS hA (c_switchTo l D cI cB cZ cO s.heap.size h a1 a2 a3 a4 a5 tt ln ed es ac cu ow er ix (ac ||| st1) (by first | assumption | (omega)) (by first | assumption | (omega)) (by first | assumption | (omega)) (by first | assumption | (omega)) (by first | assumption | (omega)) (by first | assumption | (omega)) (by first | assumption | (omega))) gX4_bringBack_X0_switchTo rfl ⟨rfl, rfl⟩ (by decide +kernel) ⟨Nat.le_of_ble_eq_true rfl, Nat.le_of_ble_eq_true rfl⟩ [1, 2, 3, 4] [0, 5] [0, 2, 3, 4, 5, 1] rfl (by decide) rfl (by decide) (by decide) (by decide) (fun u => rfl) 0 0 rfl rfl rfl hl.1 rfl (Nat.le_of_ble_eq_true rfl) dX4_bringBack_44 ⟨Nat.le_of_ble_eq_true rfl, Nat.le_of_ble_eq_true rfl⟩ (fun u u44p H locs hP hD hS => ?_)
        generalize u = ix2_u44 at u44p hP hD ⊢
        obtain ⟨hix2_u44, hok_u44⟩ := u44p
        have hix2_u44 : ∀ j, ix2_u44 j < 160 := hix2_u44
        have hok_u44 : ixOK (visb ow er (ac ||| st1)) tt ix2_u44 := hok_u44
        have hP : va_P D vwCl [(xp, .inr (4, [.ref xc, .ref xs, .ref h, .ref xq, .ref xl, .int (iI ((ag : Nat) : Int)), .int (iI ((di : Nat) : Int))])), (h, .inr (0, [.ref a1, .ref a2, .ref a3, .int (iI ((tt : Nat) : Int)), .ref a4, .int (iI ((cnt (visb ow er (ac ||| st1)) tt : Nat) : Int)), .ref a5, .int (iI ((ed : Nat) : Int)), .int (iI ((es : Nat) : Int)), .int (iI ((ac ||| st1 : Nat) : Int)), .int (iI ((min cu (cnt (visb ow er (ac ||| st1)) tt) : Nat) : Int))])), (a2, .inl (cI, 160, .inl (rN (ow)))), (a3, .inl (cI, 160, .inl (rN (er)))), (a4, .inl (cI, 60, .inl (rN (ix2_u44)))), (a5, .inl (cI, 16, .inl (rN (ba))))] H := hP
        have hD : va_D A [(xp, .inr (4, [.ref xc, .ref xs, .ref h, .ref xq, .ref xl, .int (iI ((ag : Nat) : Int)), .int (iI ((di : Nat) : Int))])), (h, .inr (0, [.ref a1, .ref a2, .ref a3, .int (iI ((tt : Nat) : Int)), .ref a4, .int (iI ((cnt (visb ow er (ac ||| st1)) tt : Nat) : Int)), .ref a5, .int (iI ((ed : Nat) : Int)), .int (iI ((es : Nat) : Int)), .int (iI ((ac ||| st1 : Nat) : Int)), .int (iI ((min cu (cnt (visb ow er (ac ||| st1)) tt) : Nat) : Int))])), (a2, .inl (cI, 160, .inl (rN (ow)))), (a3, .inl (cI, 160, .inl (rN (er)))), (a4, .inl (cI, 60, .inl (rN (ix2_u44)))), (a5, .inl (cI, 16, .inl (rN (ba))))] := hD
        refine W.eq (g2 := F0 m 47 ls [.int (iI ((cnt (visb ow er (ac ||| st1)) tt : Nat) : Int))]) rfl ?_
        exact r_iretX hx hb hr hlocks hP hD hS (ix2_u44) (rfl) (⟨by assumption, by assumption⟩) rfl dX4_bringBack_47
      · skip
        exfalso; exact absurd hok (by assumption)
    · skip
      exfalso; omega

theorem kX4_loose_28 : Cond.fieldLink RX4 28 "PricedUndo" "buffer" "LPricedUndo$Buffer;" ∈ wsX4_loose := by decide +kernel
theorem nX4_loose_X4 : ∀ w ∈ u_ws RX4 TX4 7, w ∈ wsX4_loose := by decide +kernel
set_option maxHeartbeats 4000000 in
set_option maxRecDepth 100000 in
theorem p_loose (l : Launch) (D : va_G) (cI cB cZ cO : ClassId) (xp : Nat) (xc : Nat) (xs : Nat) (xq : Nat) (xl : Nat) (ag : Nat) (di : Nat) (h : Nat) (a1 : Nat) (a2 : Nat) (a3 : Nat) (a4 : Nat) (a5 : Nat) (tt : Nat) (ln : Nat) (ed : Nat) (es : Nat) (ac : Nat) (cu : Nat) (ba : Nat → Nat) (hed : ed ≤ 16) (hba : ∀ k, ba k < 65536) (hac : ac < 65536) : Met l yX4_loose wsX4_loose ({ frames := 4, cells := 0, slots := 0, locals := 86 }) (va_Pc [.ref xp] (RO D cI cB cZ cO [(xp, .inr (4, [.ref xc, .ref xs, .ref h, .ref xq, .ref xl, .int (iI ((ag : Nat) : Int)), .int (iI ((di : Nat) : Int))])), (h, .inr (0, [.ref a1, .ref a2, .ref a3, .int (iI ((tt : Nat) : Int)), .ref a4, .int (iI ((ln : Nat) : Int)), .ref a5, .int (iI ((ed : Nat) : Int)), .int (iI ((es : Nat) : Int)), .int (iI ((ac : Nat) : Int)), .int (iI ((cu : Nat) : Int))])), (a5, .inl (cI, 16, .inl (rN (ba))))])) (QO ((lse ba ed ac ed : Nat) : Int)) 0 0 (fun _ => False) := by
  refine startO (cc := cX4_loose) (maxL := 1) (ret := (some .int)) (by decide) rfl (Nat.le_of_ble_eq_true rfl) ?_
  intro p e s m below meth c S hr hlocks hE hP ls hl
  have hx := S.1
  have hb := S.2.1
  have hown := S.2.2.2.1
  have hts := S.2.2.2.2
  have hK := hE.1
  have hl : lv_has ls 1 [(0, .ref xp)] := hl
  refine lv_aload_n hx hb dX4_loose_0 rfl (lv_at hl 0 rfl) ?_
  refine va_get (D := D) (ci := 4) (v := .ref h) (C := RX4) (T := TX4) (N := 7) hx hb hts nX4_loose_X4 hown hK hP 0 rfl rfl 2 (by decide) (hts _ kX4_loose_28) (fun _ h9 => h9) rfl dX4_loose_1 ?_
  refine callVO (n := 0) (As := []) (rest := []) (wc := [(h, .inr (0, [.ref a1, .ref a2, .ref a3, .int (iI ((tt : Nat) : Int)), .ref a4, .int (iI ((ln : Nat) : Int)), .ref a5, .int (iI ((ed : Nat) : Int)), .int (iI ((es : Nat) : Int)), .int (iI ((ac : Nat) : Int)), .int (iI ((cu : Nat) : Int))])), (a5, .inl (cI, 16, .inl (rN (ba))))]) S (c_looseEdits l D cI cB cZ cO h a1 a2 a3 a4 a5 tt ln ed es ac cu ba (by first | assumption | (omega)) (by first | assumption | (omega)) (by first | assumption | (omega))) gX4_loose_X0_looseEdits rfl ⟨rfl, rfl⟩ (by decide +kernel) ⟨Nat.le_of_ble_eq_true rfl, Nat.le_of_ble_eq_true rfl⟩ hE hP [1, 2] rfl 0 0 rfl rfl rfl hl.1 rfl (Nat.le_of_ble_eq_true rfl) dX4_loose_4 ⟨Nat.le_of_ble_eq_true rfl, Nat.le_of_ble_eq_true rfl⟩ ?_
  exact r_iretO hx hb hr hlocks (rfl) dX4_loose_7
