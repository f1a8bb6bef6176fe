theorem kX0_addInsertion_71 : Cond.fieldLink RX0 71 "PricedUndo$Buffer" "length" "I" ∈ wsX0_addInsertion := by decide +kernel
theorem nX0_addInsertion_X0 : ∀ w ∈ u_ws RX0 TX0 11, w ∈ wsX0_addInsertion := by decide +kernel
set_option maxHeartbeats 4000000 in
set_option maxRecDepth 100000 in
theorem c_addIns_bad (l : Launch) (D : va_G) (cI cB cZ cO : ClassId) (h : Nat) (a1 : Nat) (a2 : Nat) (a3 : Nat) (a4 : Nat) (a5 : Nat) (tt : Nat) (ln : Nat) (ed : Nat) (es : Nat) (ac : Nat) (cu : Nat) (hro : Nat) (x : Int) (f : Int) (cc1 : Int) (hln : ln ≤ 60) (htt : tt ≤ 160) (hed : ed ≤ 16) (rx : rg x) (rf : rg f) (rcc1 : rg cc1) (hbad : x < 0 ∨ (ln : Int) < x) : Met l yX0_addInsertion wsX0_addInsertion ({ frames := 0, cells := 0, slots := 0, locals := 0 }) (va_Pc [.ref h, .int (iI (x)), .ref hro, .int (iI (f)), .int (iI (cc1))] (RO D cI cB cZ cO [(h, .inr (0, [.ref a1, .ref a2, .ref a3, .int (iI ((tt : Nat) : Int)), .ref a4, .int (iI ((ln : Nat) : Int)), .ref a5, .int (iI ((ed : Nat) : Int)), .int (iI ((es : Nat) : Int)), .int (iI ((ac : Nat) : Int)), .int (iI ((cu : Nat) : Int))]))])) (QO (-1)) 0 0 (fun _ => False) := by
  refine startO (cc := cX0_addInsertion) (maxL := 7) (ret := (some .int)) (by decide) rfl (Nat.le_of_ble_eq_true rfl) ?_
  intro p e s m below meth c S hr hlocks hE hP ls hl
  have hx := S.1
  have hb := S.2.1
  have hown := S.2.2.2.1
  have hts := S.2.2.2.2
  have hK := hE.1
  have hl : lv_has ls 7 [(0, .ref h), (1, .int (iI (x))), (2, .ref hro), (3, .int (iI (f))), (4, .int (iI (cc1)))] := hl
  refine lv_iload_n hx hb dX0_addInsertion_0 rfl (lv_at hl 1 rfl) ?_
  refine r_if_lt (tgt := 12) hx hb (by omega) dX0_addInsertion_1 (by decide) (fun c_1 => ?_) (fun c_1 => ?_)
  · skip
    refine r_iconst hx hb dX0_addInsertion_12 ?_
    exact r_iretO hx hb hr hlocks (rfl) dX0_addInsertion_13
  · skip
    refine lv_iload_n hx hb dX0_addInsertion_4 rfl (lv_at hl 1 rfl) ?_
    refine lv_aload_n hx hb dX0_addInsertion_5 rfl (lv_at hl 0 rfl) ?_
    refine va_get (D := D) (ci := 0) (v := .int (iI ((ln : Nat) : Int))) (C := RX0) (T := TX0) (N := 11) hx hb hts nX0_addInsertion_X0 hown hK hP 0 rfl rfl 5 (by decide) (hts _ kX0_addInsertion_71) (fun _ h9 => h9) rfl dX0_addInsertion_6 ?_
    refine r_icmp_le (tgt := 14) hx hb (by omega) (by omega) dX0_addInsertion_9 (by decide) (fun c_2 => ?_) (fun c_2 => ?_)
    · skip
      exfalso; omega
    · skip
      refine r_iconst hx hb dX0_addInsertion_12 ?_
      exact r_iretO hx hb hr hlocks (rfl) dX0_addInsertion_13

set_option maxHeartbeats 4000000 in
set_option maxRecDepth 100000 in
theorem c_addIns_st (l : Launch) (D : va_G) (cI cB cZ cO : ClassId) (h : Nat) (a1 : Nat) (a2 : Nat) (a3 : Nat) (a4 : Nat) (a5 : Nat) (tt : Nat) (ln : Nat) (ed : Nat) (es : Nat) (ac : Nat) (cu : Nat) (hro : Nat) (x : Int) (f : Int) (cc1 : Int) (hln : ln ≤ 60) (htt : tt ≤ 160) (hed : ed ≤ 16) (rx : rg x) (rf : rg f) (rcc1 : rg cc1) (hx0 : 0 ≤ x) (hx1 : x ≤ (ln : Int)) (hbad : cc1 < 1 ∨ 8 < cc1) : Met l yX0_addInsertion wsX0_addInsertion ({ frames := 0, cells := 0, slots := 0, locals := 0 }) (va_Pc [.ref h, .int (iI (x)), .ref hro, .int (iI (f)), .int (iI (cc1))] (RO D cI cB cZ cO [(h, .inr (0, [.ref a1, .ref a2, .ref a3, .int (iI ((tt : Nat) : Int)), .ref a4, .int (iI ((ln : Nat) : Int)), .ref a5, .int (iI ((ed : Nat) : Int)), .int (iI ((es : Nat) : Int)), .int (iI ((ac : Nat) : Int)), .int (iI ((cu : Nat) : Int))]))])) (QO (-2)) 0 0 (fun _ => False) := by
  refine startO (cc := cX0_addInsertion) (maxL := 7) (ret := (some .int)) (by decide) rfl (Nat.le_of_ble_eq_true rfl) ?_
  intro p e s m below meth c S hr hlocks hE hP ls hl
  have hx := S.1
  have hb := S.2.1
  have hown := S.2.2.2.1
  have hts := S.2.2.2.2
  have hK := hE.1
  have hl : lv_has ls 7 [(0, .ref h), (1, .int (iI (x))), (2, .ref hro), (3, .int (iI (f))), (4, .int (iI (cc1)))] := hl
  refine lv_iload_n hx hb dX0_addInsertion_0 rfl (lv_at hl 1 rfl) ?_
  refine r_if_lt (tgt := 12) hx hb (by omega) dX0_addInsertion_1 (by decide) (fun c_1 => ?_) (fun c_1 => ?_)
  · skip
    exfalso; omega
  · skip
    refine lv_iload_n hx hb dX0_addInsertion_4 rfl (lv_at hl 1 rfl) ?_
    refine lv_aload_n hx hb dX0_addInsertion_5 rfl (lv_at hl 0 rfl) ?_
    refine va_get (D := D) (ci := 0) (v := .int (iI ((ln : Nat) : Int))) (C := RX0) (T := TX0) (N := 11) hx hb hts nX0_addInsertion_X0 hown hK hP 0 rfl rfl 5 (by decide) (hts _ kX0_addInsertion_71) (fun _ h9 => h9) rfl dX0_addInsertion_6 ?_
    refine r_icmp_le (tgt := 14) hx hb (by omega) (by omega) dX0_addInsertion_9 (by decide) (fun c_2 => ?_) (fun c_2 => ?_)
    · skip
      refine lv_iload hx hb dX0_addInsertion_14 (lv_at hl 4 rfl) ?_
      refine r_iconst hx hb dX0_addInsertion_16 ?_
      refine r_icmp_lt (tgt := 27) hx hb (by omega) (⟨by decide, by decide⟩) dX0_addInsertion_17 (by decide) (fun c_3 => ?_) (fun c_3 => ?_)
      · skip
        refine r_bipush hx hb dX0_addInsertion_27 (by decide) ?_
        exact r_iretO hx hb hr hlocks (rfl) dX0_addInsertion_29
      · skip
        refine lv_iload hx hb dX0_addInsertion_20 (lv_at hl 4 rfl) ?_
        refine r_bipush hx hb dX0_addInsertion_22 (by decide) ?_
        refine r_icmp_le (tgt := 30) hx hb (by omega) (⟨by decide, by decide⟩) dX0_addInsertion_24 (by decide) (fun c_4 => ?_) (fun c_4 => ?_)
        · skip
          exfalso; omega
        · skip
          refine r_bipush hx hb dX0_addInsertion_27 (by decide) ?_
          exact r_iretO hx hb hr hlocks (rfl) dX0_addInsertion_29
    · skip
      exfalso; omega

theorem kX0_addInsertion_50 : Cond.fieldLink RX0 50 "PricedUndo$Buffer" "edits" "I" ∈ wsX0_addInsertion := by decide +kernel
theorem kX0_addInsertion_39 : Cond.fieldLink RX0 39 "PricedUndo$Buffer" "total" "I" ∈ wsX0_addInsertion := by decide +kernel
set_option maxHeartbeats 4000000 in
set_option maxRecDepth 100000 in
theorem c_addIns_full (l : Launch) (D : va_G) (cI cB cZ cO : ClassId) (h : Nat) (a1 : Nat) (a2 : Nat) (a3 : Nat) (a4 : Nat) (a5 : Nat) (tt : Nat) (ln : Nat) (ed : Nat) (es : Nat) (ac : Nat) (cu : Nat) (hro : Nat) (x : Int) (f : Int) (cc1 : Int) (hln : ln ≤ 60) (htt : tt ≤ 160) (hed : ed ≤ 16) (rx : rg x) (rf : rg f) (rcc1 : rg cc1) (hx0 : 0 ≤ x) (hx1 : x ≤ (ln : Int)) (hc0 : 1 ≤ cc1) (hc1 : cc1 ≤ 8) (hbad : ed = 16 ∨ 60 < (ln : Int) + cc1 ∨ 160 < (tt : Int) + cc1) : Met l yX0_addInsertion wsX0_addInsertion ({ frames := 0, cells := 0, slots := 0, locals := 0 }) (va_Pc [.ref h, .int (iI (x)), .ref hro, .int (iI (f)), .int (iI (cc1))] (RO D cI cB cZ cO [(h, .inr (0, [.ref a1, .ref a2, .ref a3, .int (iI ((tt : Nat) : Int)), .ref a4, .int (iI ((ln : Nat) : Int)), .ref a5, .int (iI ((ed : Nat) : Int)), .int (iI ((es : Nat) : Int)), .int (iI ((ac : Nat) : Int)), .int (iI ((cu : Nat) : Int))]))])) (QO (-3)) 0 0 (fun _ => False) := by
  refine startO (cc := cX0_addInsertion) (maxL := 7) (ret := (some .int)) (by decide) rfl (Nat.le_of_ble_eq_true rfl) ?_
  intro p e s m below meth c S hr hlocks hE hP ls hl
  have hx := S.1
  have hb := S.2.1
  have hown := S.2.2.2.1
  have hts := S.2.2.2.2
  have hK := hE.1
  have hl : lv_has ls 7 [(0, .ref h), (1, .int (iI (x))), (2, .ref hro), (3, .int (iI (f))), (4, .int (iI (cc1)))] := hl
  refine lv_iload_n hx hb dX0_addInsertion_0 rfl (lv_at hl 1 rfl) ?_
  refine r_if_lt (tgt := 12) hx hb (by omega) dX0_addInsertion_1 (by decide) (fun c_1 => ?_) (fun c_1 => ?_)
  · skip
    exfalso; omega
  · skip
    refine lv_iload_n hx hb dX0_addInsertion_4 rfl (lv_at hl 1 rfl) ?_
    refine lv_aload_n hx hb dX0_addInsertion_5 rfl (lv_at hl 0 rfl) ?_
    refine va_get (D := D) (ci := 0) (v := .int (iI ((ln : Nat) : Int))) (C := RX0) (T := TX0) (N := 11) hx hb hts nX0_addInsertion_X0 hown hK hP 0 rfl rfl 5 (by decide) (hts _ kX0_addInsertion_71) (fun _ h9 => h9) rfl dX0_addInsertion_6 ?_
    refine r_icmp_le (tgt := 14) hx hb (by omega) (by omega) dX0_addInsertion_9 (by decide) (fun c_2 => ?_) (fun c_2 => ?_)
    · skip
      refine lv_iload hx hb dX0_addInsertion_14 (lv_at hl 4 rfl) ?_
      refine r_iconst hx hb dX0_addInsertion_16 ?_
      refine r_icmp_lt (tgt := 27) hx hb (by omega) (⟨by decide, by decide⟩) dX0_addInsertion_17 (by decide) (fun c_3 => ?_) (fun c_3 => ?_)
      · skip
        exfalso; omega
      · skip
        refine lv_iload hx hb dX0_addInsertion_20 (lv_at hl 4 rfl) ?_
        refine r_bipush hx hb dX0_addInsertion_22 (by decide) ?_
        refine r_icmp_le (tgt := 30) hx hb (by omega) (⟨by decide, by decide⟩) dX0_addInsertion_24 (by decide) (fun c_4 => ?_) (fun c_4 => ?_)
        · skip
          refine lv_aload_n hx hb dX0_addInsertion_30 rfl (lv_at hl 0 rfl) ?_
          refine va_get (D := D) (ci := 0) (v := .int (iI ((ed : Nat) : Int))) (C := RX0) (T := TX0) (N := 11) hx hb hts nX0_addInsertion_X0 hown hK hP 0 rfl rfl 7 (by decide) (hts _ kX0_addInsertion_50) (fun _ h9 => h9) rfl dX0_addInsertion_31 ?_
          refine r_bipush hx hb dX0_addInsertion_34 (by decide) ?_
          refine r_icmp_ge (tgt := 64) hx hb (by omega) (⟨by decide, by decide⟩) dX0_addInsertion_36 (by decide) (fun c_5 => ?_) (fun c_5 => ?_)
          · skip
            refine r_bipush hx hb dX0_addInsertion_64 (by decide) ?_
            exact r_iretO hx hb hr hlocks (rfl) dX0_addInsertion_66
          · skip
            refine lv_aload_n hx hb dX0_addInsertion_39 rfl (lv_at hl 0 rfl) ?_
            refine va_get (D := D) (ci := 0) (v := .int (iI ((ln : Nat) : Int))) (C := RX0) (T := TX0) (N := 11) hx hb hts nX0_addInsertion_X0 hown hK hP 0 rfl rfl 5 (by decide) (hts _ kX0_addInsertion_71) (fun _ h9 => h9) rfl dX0_addInsertion_40 ?_
            refine lv_iload hx hb dX0_addInsertion_43 (lv_at hl 4 rfl) ?_
            refine r_iadd (v := (((ln : Nat) : Int) + (cc1))) hx hb (rfl) dX0_addInsertion_45 ?_
            refine r_bipush hx hb dX0_addInsertion_46 (by decide) ?_
            refine r_icmp_gt (tgt := 64) hx hb (by omega) (⟨by decide, by decide⟩) dX0_addInsertion_48 (by decide) (fun c_6 => ?_) (fun c_6 => ?_)
            · skip
              refine r_bipush hx hb dX0_addInsertion_64 (by decide) ?_
              exact r_iretO hx hb hr hlocks (rfl) dX0_addInsertion_66
            · skip
              refine lv_aload_n hx hb dX0_addInsertion_51 rfl (lv_at hl 0 rfl) ?_
              refine va_get (D := D) (ci := 0) (v := .int (iI ((tt : Nat) : Int))) (C := RX0) (T := TX0) (N := 11) hx hb hts nX0_addInsertion_X0 hown hK hP 0 rfl rfl 3 (by decide) (hts _ kX0_addInsertion_39) (fun _ h9 => h9) rfl dX0_addInsertion_52 ?_
              refine lv_iload hx hb dX0_addInsertion_55 (lv_at hl 4 rfl) ?_
              refine r_iadd (v := (((tt : Nat) : Int) + (cc1))) hx hb (rfl) dX0_addInsertion_57 ?_
              refine r_sipush hx hb dX0_addInsertion_58 (by decide) ?_
              refine r_icmp_le (tgt := 67) hx hb (by omega) (⟨by decide, by decide⟩) dX0_addInsertion_61 (by decide) (fun c_7 => ?_) (fun c_7 => ?_)
              · skip
                exfalso; omega
              · skip
                refine r_bipush hx hb dX0_addInsertion_64 (by decide) ?_
                exact r_iretO hx hb hr hlocks (rfl) dX0_addInsertion_66
        · skip
          exfalso; omega
    · skip
      exfalso; omega
