theorem kX0_putCharacter_9 : Cond.fieldLink RX0 9 "PricedUndo$Buffer" "codes" "[I" ∈ wsX0_putCharacter := by decide +kernel
theorem nX0_putCharacter_X0 : ∀ w ∈ u_ws RX0 TX0 11, w ∈ wsX0_putCharacter := by decide +kernel
theorem kX0_putCharacter_15 : Cond.fieldLink RX0 15 "PricedUndo$Buffer" "owners" "[I" ∈ wsX0_putCharacter := by decide +kernel
theorem kX0_putCharacter_18 : Cond.fieldLink RX0 18 "PricedUndo$Buffer" "erasers" "[I" ∈ wsX0_putCharacter := by decide +kernel
set_option maxHeartbeats 4000000 in
set_option maxRecDepth 100000 in
theorem c_putCharacter (l : Launch) (D : va_G) (cI cB cZ cO : ClassId) (sz : Nat) (h : Nat) (a1 : Nat) (a2 : Nat) (a3 : Nat) (a4 : Nat) (a5 : Nat) (tt : Nat) (ln : Nat) (ed : Nat) (es : Nat) (ac : Nat) (cu : Nat) (co : Nat → Nat) (ow : Nat → Nat) (er : Nat → Nat) (k : Nat) (x1 : Nat) (w1 : Nat) (hk : k < 160) : Met l yX0_putCharacter wsX0_putCharacter ({ frames := 0, cells := 0, slots := 0, locals := 0 }) (va_Pc [.ref h, .int (iI ((k : Nat) : Int)), .int (iI ((x1 : Nat) : Int)), .int (iI ((w1 : Nat) : Int))] (RW D cI cB cZ cO sz [(h, .inr (0, [.ref a1, .ref a2, .ref a3, .int (iI ((tt : Nat) : Int)), .ref a4, .int (iI ((ln : Nat) : Int)), .ref a5, .int (iI ((ed : Nat) : Int)), .int (iI ((es : Nat) : Int)), .int (iI ((ac : Nat) : Int)), .int (iI ((cu : Nat) : Int))])), (a1, .inl (cI, 160, .inl (rN (co)))), (a2, .inl (cI, 160, .inl (rN (ow)))), (a3, .inl (cI, 160, .inl (rN (er))))])) (QX D (S := Unit) (fun u => none) (fun u => True) (fun u => [(h, .inr (0, [.ref a1, .ref a2, .ref a3, .int (iI ((tt : Nat) : Int)), .ref a4, .int (iI ((ln : Nat) : Int)), .ref a5, .int (iI ((ed : Nat) : Int)), .int (iI ((es : Nat) : Int)), .int (iI ((ac : Nat) : Int)), .int (iI ((cu : Nat) : Int))])), (a1, .inl (cI, 160, .inl (rN (up co k (x1))))), (a2, .inl (cI, 160, .inl (rN (up ow k (w1))))), (a3, .inl (cI, 160, .inl (rN (up er k (0)))))]) (va_A [(h, .inr (0, [.ref a1, .ref a2, .ref a3, .int (iI ((tt : Nat) : Int)), .ref a4, .int (iI ((ln : Nat) : Int)), .ref a5, .int (iI ((ed : Nat) : Int)), .int (iI ((es : Nat) : Int)), .int (iI ((ac : Nat) : Int)), .int (iI ((cu : Nat) : Int))])), (a1, .inl (cI, 160, .inl (rN (co)))), (a2, .inl (cI, 160, .inl (rN (ow)))), (a3, .inl (cI, 160, .inl (rN (er))))] sz)) 0 0 (va_A [(h, .inr (0, [.ref a1, .ref a2, .ref a3, .int (iI ((tt : Nat) : Int)), .ref a4, .int (iI ((ln : Nat) : Int)), .ref a5, .int (iI ((ed : Nat) : Int)), .int (iI ((es : Nat) : Int)), .int (iI ((ac : Nat) : Int)), .int (iI ((cu : Nat) : Int))])), (a1, .inl (cI, 160, .inl (rN (co)))), (a2, .inl (cI, 160, .inl (rN (ow)))), (a3, .inl (cI, 160, .inl (rN (er))))] sz) := by
  refine startW (cc := cX0_putCharacter) (maxL := 4) (ret := none) (by decide) rfl (Nat.le_of_ble_eq_true rfl) ?_
  intro p e s m below meth c S hr hlocks hE hP A hD hA hS ls hl
  have hx := S.1
  have hb := S.2.1
  have hown := S.2.2.2.1
  have hts := S.2.2.2.2
  have hK := hE.1
  have hl : lv_has ls 4 [(0, .ref h), (1, .int (iI ((k : Nat) : Int))), (2, .int (iI ((x1 : Nat) : Int))), (3, .int (iI ((w1 : Nat) : Int)))] := hl
  refine lv_iload_n hx hb dX0_putCharacter_0 rfl (lv_at hl 1 rfl) ?_
  refine r_if_lt (tgt := 32) hx hb (by omega) dX0_putCharacter_1 (by decide) (fun c_1 => ?_) (fun c_1 => ?_)
  · skip
    exact r_vretX hx hb hr hlocks hP hD hS () rfl (trivial) (by exfalso; omega) dX0_putCharacter_32
  · skip
    refine lv_iload_n hx hb dX0_putCharacter_4 rfl (lv_at hl 1 rfl) ?_
    refine r_sipush hx hb dX0_putCharacter_5 (by decide) ?_
    refine r_icmp_ge (tgt := 32) hx hb (by omega) (⟨by decide, by decide⟩) dX0_putCharacter_8 (by decide) (fun c_2 => ?_) (fun c_2 => ?_)
    · skip
      exact r_vretX hx hb hr hlocks hP hD hS () rfl (trivial) (by exfalso; omega) dX0_putCharacter_32
    · skip
      refine lv_aload_n hx hb dX0_putCharacter_11 rfl (lv_at hl 0 rfl) ?_
      refine va_get (D := D) (ci := 0) (v := .ref a1) (C := RX0) (T := TX0) (N := 11) hx hb hts nX0_putCharacter_X0 hown hK hP 0 rfl rfl 0 (by decide) (hts _ kX0_putCharacter_9) (fun _ h9 => h9) rfl dX0_putCharacter_12 ?_
      refine lv_iload_n hx hb dX0_putCharacter_15 rfl (lv_at hl 1 rfl) ?_
      refine lv_iload_n hx hb dX0_putCharacter_16 rfl (lv_at hl 2 rfl) ?_
      refine r_iastN (v := (x1)) hx hb hK hP hD hS 1 0 rfl rfl (k) (rfl) (by omega) (by decide) dX0_putCharacter_17 (fun H locs hP hD hS => ?_)
      have hP : va_P D vwCl [(h, .inr (0, [.ref a1, .ref a2, .ref a3, .int (iI ((tt : Nat) : Int)), .ref a4, .int (iI ((ln : Nat) : Int)), .ref a5, .int (iI ((ed : Nat) : Int)), .int (iI ((es : Nat) : Int)), .int (iI ((ac : Nat) : Int)), .int (iI ((cu : Nat) : Int))])), (a1, .inl (cI, 160, .inl (rN (up co k (x1))))), (a2, .inl (cI, 160, .inl (rN (ow)))), (a3, .inl (cI, 160, .inl (rN (er))))] H := hP
      have hD : va_D A [(h, .inr (0, [.ref a1, .ref a2, .ref a3, .int (iI ((tt : Nat) : Int)), .ref a4, .int (iI ((ln : Nat) : Int)), .ref a5, .int (iI ((ed : Nat) : Int)), .int (iI ((es : Nat) : Int)), .int (iI ((ac : Nat) : Int)), .int (iI ((cu : Nat) : Int))])), (a1, .inl (cI, 160, .inl (rN (up co k (x1))))), (a2, .inl (cI, 160, .inl (rN (ow)))), (a3, .inl (cI, 160, .inl (rN (er))))] := hD
      refine lv_aload_n hx hb dX0_putCharacter_18 rfl (lv_at hl 0 rfl) ?_
      refine va_get (D := D) (ci := 0) (v := .ref a2) (C := RX0) (T := TX0) (N := 11) hx hb hts nX0_putCharacter_X0 hown hK hP 0 rfl rfl 1 (by decide) (hts _ kX0_putCharacter_15) (fun _ h9 => h9) rfl dX0_putCharacter_19 ?_
      refine lv_iload_n hx hb dX0_putCharacter_22 rfl (lv_at hl 1 rfl) ?_
      refine lv_iload_n hx hb dX0_putCharacter_23 rfl (lv_at hl 3 rfl) ?_
      refine r_iastN (v := (w1)) hx hb hK hP hD hS 2 0 rfl rfl (k) (rfl) (by omega) (by decide) dX0_putCharacter_24 (fun H locs hP hD hS => ?_)
      have hP : va_P D vwCl [(h, .inr (0, [.ref a1, .ref a2, .ref a3, .int (iI ((tt : Nat) : Int)), .ref a4, .int (iI ((ln : Nat) : Int)), .ref a5, .int (iI ((ed : Nat) : Int)), .int (iI ((es : Nat) : Int)), .int (iI ((ac : Nat) : Int)), .int (iI ((cu : Nat) : Int))])), (a1, .inl (cI, 160, .inl (rN (up co k (x1))))), (a2, .inl (cI, 160, .inl (rN (up ow k (w1))))), (a3, .inl (cI, 160, .inl (rN (er))))] H := hP
      have hD : va_D A [(h, .inr (0, [.ref a1, .ref a2, .ref a3, .int (iI ((tt : Nat) : Int)), .ref a4, .int (iI ((ln : Nat) : Int)), .ref a5, .int (iI ((ed : Nat) : Int)), .int (iI ((es : Nat) : Int)), .int (iI ((ac : Nat) : Int)), .int (iI ((cu : Nat) : Int))])), (a1, .inl (cI, 160, .inl (rN (up co k (x1))))), (a2, .inl (cI, 160, .inl (rN (up ow k (w1))))), (a3, .inl (cI, 160, .inl (rN (er))))] := hD
      refine lv_aload_n hx hb dX0_putCharacter_25 rfl (lv_at hl 0 rfl) ?_
      refine va_get (D := D) (ci := 0) (v := .ref a3) (C := RX0) (T := TX0) (N := 11) hx hb hts nX0_putCharacter_X0 hown hK hP 0 rfl rfl 2 (by decide) (hts _ kX0_putCharacter_18) (fun _ h9 => h9) rfl dX0_putCharacter_26 ?_
      refine lv_iload_n hx hb dX0_putCharacter_29 rfl (lv_at hl 1 rfl) ?_
      refine r_iconst hx hb dX0_putCharacter_30 ?_
      refine r_iastN (v := (0)) hx hb hK hP hD hS 3 0 rfl rfl (k) (rfl) (by omega) (by decide) dX0_putCharacter_31 (fun H locs hP hD hS => ?_)
      have hP : va_P D vwCl [(h, .inr (0, [.ref a1, .ref a2, .ref a3, .int (iI ((tt : Nat) : Int)), .ref a4, .int (iI ((ln : Nat) : Int)), .ref a5, .int (iI ((ed : Nat) : Int)), .int (iI ((es : Nat) : Int)), .int (iI ((ac : Nat) : Int)), .int (iI ((cu : Nat) : Int))])), (a1, .inl (cI, 160, .inl (rN (up co k (x1))))), (a2, .inl (cI, 160, .inl (rN (up ow k (w1))))), (a3, .inl (cI, 160, .inl (rN (up er k (0)))))] H := hP
      have hD : va_D A [(h, .inr (0, [.ref a1, .ref a2, .ref a3, .int (iI ((tt : Nat) : Int)), .ref a4, .int (iI ((ln : Nat) : Int)), .ref a5, .int (iI ((ed : Nat) : Int)), .int (iI ((es : Nat) : Int)), .int (iI ((ac : Nat) : Int)), .int (iI ((cu : Nat) : Int))])), (a1, .inl (cI, 160, .inl (rN (up co k (x1))))), (a2, .inl (cI, 160, .inl (rN (up ow k (w1))))), (a3, .inl (cI, 160, .inl (rN (up er k (0)))))] := hD
      exact r_vretX hx hb hr hlocks hP hD hS () rfl (trivial) rfl dX0_putCharacter_32

theorem kX0_makeRoom_39 : Cond.fieldLink RX0 39 "PricedUndo$Buffer" "total" "I" ∈ wsX0_makeRoom := by decide +kernel
theorem nX0_makeRoom_X0 : ∀ w ∈ u_ws RX0 TX0 11, w ∈ wsX0_makeRoom := by decide +kernel
theorem kX0_makeRoom_9 : Cond.fieldLink RX0 9 "PricedUndo$Buffer" "codes" "[I" ∈ wsX0_makeRoom := by decide +kernel
theorem kX0_makeRoom_15 : Cond.fieldLink RX0 15 "PricedUndo$Buffer" "owners" "[I" ∈ wsX0_makeRoom := by decide +kernel
theorem kX0_makeRoom_18 : Cond.fieldLink RX0 18 "PricedUndo$Buffer" "erasers" "[I" ∈ wsX0_makeRoom := by decide +kernel
set_option maxHeartbeats 4000000 in
set_option maxRecDepth 100000 in
theorem c_makeRoom (l : Launch) (D : va_G) (cI cB cZ cO : ClassId) (sz : Nat) (h : Nat) (a1 : Nat) (a2 : Nat) (a3 : Nat) (a4 : Nat) (a5 : Nat) (tt : Nat) (ln : Nat) (ed : Nat) (es : Nat) (ac : Nat) (cu : Nat) (co : Nat → Nat) (ow : Nat → Nat) (er : Nat → Nat) (b1 : Nat) (c1 : Nat) (hb1 : b1 ≤ tt) (hc : tt + c1 ≤ 160) : Met l yX0_makeRoom wsX0_makeRoom ({ frames := 0, cells := 0, slots := 0, locals := 0 }) (va_Pc [.ref h, .int (iI ((b1 : Nat) : Int)), .int (iI ((c1 : Nat) : Int))] (RW D cI cB cZ cO sz [(h, .inr (0, [.ref a1, .ref a2, .ref a3, .int (iI ((tt : Nat) : Int)), .ref a4, .int (iI ((ln : Nat) : Int)), .ref a5, .int (iI ((ed : Nat) : Int)), .int (iI ((es : Nat) : Int)), .int (iI ((ac : Nat) : Int)), .int (iI ((cu : Nat) : Int))])), (a1, .inl (cI, 160, .inl (rN (co)))), (a2, .inl (cI, 160, .inl (rN (ow)))), (a3, .inl (cI, 160, .inl (rN (er))))])) (QX D (S := Unit) (fun u => none) (fun u => True) (fun u => [(h, .inr (0, [.ref a1, .ref a2, .ref a3, .int (iI ((tt + c1 : Nat) : Int)), .ref a4, .int (iI ((ln : Nat) : Int)), .ref a5, .int (iI ((ed : Nat) : Int)), .int (iI ((es : Nat) : Int)), .int (iI ((ac : Nat) : Int)), .int (iI ((cu : Nat) : Int))])), (a1, .inl (cI, 160, .inl (rN (shF co b1 c1 tt)))), (a2, .inl (cI, 160, .inl (rN (shF ow b1 c1 tt)))), (a3, .inl (cI, 160, .inl (rN (shF er b1 c1 tt))))]) (va_A [(h, .inr (0, [.ref a1, .ref a2, .ref a3, .int (iI ((tt : Nat) : Int)), .ref a4, .int (iI ((ln : Nat) : Int)), .ref a5, .int (iI ((ed : Nat) : Int)), .int (iI ((es : Nat) : Int)), .int (iI ((ac : Nat) : Int)), .int (iI ((cu : Nat) : Int))])), (a1, .inl (cI, 160, .inl (rN (co)))), (a2, .inl (cI, 160, .inl (rN (ow)))), (a3, .inl (cI, 160, .inl (rN (er))))] sz)) 0 0 (va_A [(h, .inr (0, [.ref a1, .ref a2, .ref a3, .int (iI ((tt : Nat) : Int)), .ref a4, .int (iI ((ln : Nat) : Int)), .ref a5, .int (iI ((ed : Nat) : Int)), .int (iI ((es : Nat) : Int)), .int (iI ((ac : Nat) : Int)), .int (iI ((cu : Nat) : Int))])), (a1, .inl (cI, 160, .inl (rN (co)))), (a2, .inl (cI, 160, .inl (rN (ow)))), (a3, .inl (cI, 160, .inl (rN (er))))] sz) := by
  refine startW (cc := cX0_makeRoom) (maxL := 4) (ret := none) (by decide) rfl (Nat.le_of_ble_eq_true rfl) ?_
  intro p e s m below meth c S hr hlocks hE hP A hD hA hS ls hl
  have hx := S.1
  have hb := S.2.1
  have hown := S.2.2.2.1
  have hts := S.2.2.2.2
  have hK := hE.1
  have hl : lv_has ls 4 [(0, .ref h), (1, .int (iI ((b1 : Nat) : Int))), (2, .int (iI ((c1 : Nat) : Int)))] := hl
  refine lv_aload_n hx hb dX0_makeRoom_0 rfl (lv_at hl 0 rfl) ?_
  refine va_get (D := D) (ci := 0) (v := .int (iI ((tt : Nat) : Int))) (C := RX0) (T := TX0) (N := 11) hx hb hts nX0_makeRoom_X0 hown hK hP 0 rfl rfl 3 (by decide) (hts _ kX0_makeRoom_39) (fun _ h9 => h9) rfl dX0_makeRoom_1 ?_
  refine r_iconst hx hb dX0_makeRoom_4 ?_
  refine r_isub (v := (((tt : Nat) : Int) - 1)) hx hb (rfl) dX0_makeRoom_5 ?_
  refine lv_istore_n (lv' := [(3, .int (iI (((tt : Nat) : Int) - 1))), (0, .ref h), (1, .int (iI ((b1 : Nat) : Int))), (2, .int (iI ((c1 : Nat) : Int)))]) hx hb dX0_makeRoom_6 rfl hl (by decide) rfl (fun ls hl => ?_)
  have loop_7 : ∀ (n_7 : Nat) (b : Nat), (b - b1) < n_7 → (b ≤ tt) → (b1 ≤ b) → ∀ (H : Heap) (locs : List Loc), va_P D vwCl [(h, .inr (0, [.ref a1, .ref a2, .ref a3, .int (iI ((tt : Nat) : Int)), .ref a4, .int (iI ((ln : Nat) : Int)), .ref a5, .int (iI ((ed : Nat) : Int)), .int (iI ((es : Nat) : Int)), .int (iI ((ac : Nat) : Int)), .int (iI ((cu : Nat) : Int))])), (a1, .inl (cI, 160, .inl (rN (shF co b c1 tt)))), (a2, .inl (cI, 160, .inl (rN (shF ow b c1 tt)))), (a3, .inl (cI, 160, .inl (rN (shF er b c1 tt))))] H → va_D A [(h, .inr (0, [.ref a1, .ref a2, .ref a3, .int (iI ((tt : Nat) : Int)), .ref a4, .int (iI ((ln : Nat) : Int)), .ref a5, .int (iI ((ed : Nat) : Int)), .int (iI ((es : Nat) : Int)), .int (iI ((ac : Nat) : Int)), .int (iI ((cu : Nat) : Int))])), (a1, .inl (cI, 160, .inl (rN (shF co b c1 tt)))), (a2, .inl (cI, 160, .inl (rN (shF ow b c1 tt)))), (a3, .inl (cI, 160, .inl (rN (shF er b c1 tt))))] → va_S A s.heap H locs → ∀ (ls : Array Slot), lv_has ls 4 [(0, .ref h), (1, .int (iI ((b1 : Nat) : Int))), (2, .int (iI ((c1 : Nat) : Int))), (3, .int (iI (((b : Nat) : Int) - 1)))] → W p l e ({ frames := 0, cells := 0, slots := 0, locals := 0 }) s m ([.ref h, .int (iI ((b1 : Nat) : Int)), .int (iI ((c1 : Nat) : Int))] : List Value).toArray below meth c H locs 0 0 (MQ below (QX D (S := Unit) (fun u => none) (fun u => True) (fun u => [(h, .inr (0, [.ref a1, .ref a2, .ref a3, .int (iI ((tt + c1 : Nat) : Int)), .ref a4, .int (iI ((ln : Nat) : Int)), .ref a5, .int (iI ((ed : Nat) : Int)), .int (iI ((es : Nat) : Int)), .int (iI ((ac : Nat) : Int)), .int (iI ((cu : Nat) : Int))])), (a1, .inl (cI, 160, .inl (rN (shF co b1 c1 tt)))), (a2, .inl (cI, 160, .inl (rN (shF ow b1 c1 tt)))), (a3, .inl (cI, 160, .inl (rN (shF er b1 c1 tt))))]) A) ([.ref h, .int (iI ((b1 : Nat) : Int)), .int (iI ((c1 : Nat) : Int))] : List Value).toArray s 0 0 A) (F0 m 7 ls []) := by
    intro n_7
    induction n_7 with
    | zero => intro b h_meas; exact absurd h_meas (Nat.not_lt_zero _)
    | succ n_7 ih_7 =>
      intro b h_m7 ib ib1 H locs hP hD hS ls hl
      refine lv_iload_n hx hb dX0_makeRoom_7 rfl (lv_at hl 3 rfl) ?_
      refine lv_iload_n hx hb dX0_makeRoom_8 rfl (lv_at hl 1 rfl) ?_
      refine r_icmp_lt (tgt := 60) hx hb (by omega) (by omega) dX0_makeRoom_9 (by decide) (fun c_1 => ?_) (fun c_1 => ?_)
      · skip
        obtain rfl : b = b1 := by omega
        refine lv_aload_n hx hb dX0_makeRoom_60 rfl (lv_at hl 0 rfl) ?_
        refine lv_dup hx hb dX0_makeRoom_61 rfl ?_
        refine va_get (D := D) (ci := 0) (v := .int (iI ((tt : Nat) : Int))) (C := RX0) (T := TX0) (N := 11) hx hb hts nX0_makeRoom_X0 hown hK hP 0 rfl rfl 3 (by decide) (hts _ kX0_makeRoom_39) (fun _ h9 => h9) rfl dX0_makeRoom_62 ?_
        refine lv_iload_n hx hb dX0_makeRoom_65 rfl (lv_at hl 2 rfl) ?_
        refine r_iadd (v := ((tt + c1 : Nat) : Int)) hx hb (rfl) dX0_makeRoom_66 ?_
        refine va_put (D := D) (ci := 0) (v := .int (iI ((tt + c1 : Nat) : Int))) (ty := .int) (C := RX0) (T := TX0) (N := 11) hx hb hts nX0_makeRoom_X0 tyX0 tyX0_ok nmX0 hown hK hP hD hS 0 rfl rfl 3 (by decide) (hts _ kX0_makeRoom_39) (fun _ h9 => h9) rfl (by decide +kernel) rfl rfl (Nat.le_of_ble_eq_true rfl) dX0_makeRoom_67 (fun H locs hP hD hS => ?_)
        have hP : va_P D vwCl [(h, .inr (0, [.ref a1, .ref a2, .ref a3, .int (iI ((tt + c1 : Nat) : Int)), .ref a4, .int (iI ((ln : Nat) : Int)), .ref a5, .int (iI ((ed : Nat) : Int)), .int (iI ((es : Nat) : Int)), .int (iI ((ac : Nat) : Int)), .int (iI ((cu : Nat) : Int))])), (a1, .inl (cI, 160, .inl (rN (shF co b c1 tt)))), (a2, .inl (cI, 160, .inl (rN (shF ow b c1 tt)))), (a3, .inl (cI, 160, .inl (rN (shF er b c1 tt))))] H := hP
        have hD : va_D A [(h, .inr (0, [.ref a1, .ref a2, .ref a3, .int (iI ((tt + c1 : Nat) : Int)), .ref a4, .int (iI ((ln : Nat) : Int)), .ref a5, .int (iI ((ed : Nat) : Int)), .int (iI ((es : Nat) : Int)), .int (iI ((ac : Nat) : Int)), .int (iI ((cu : Nat) : Int))])), (a1, .inl (cI, 160, .inl (rN (shF co b c1 tt)))), (a2, .inl (cI, 160, .inl (rN (shF ow b c1 tt)))), (a3, .inl (cI, 160, .inl (rN (shF er b c1 tt))))] := hD
        exact r_vretX hx hb hr hlocks hP hD hS () rfl (trivial) (by rfl) dX0_makeRoom_70
      · skip
        refine lv_aload_n hx hb dX0_makeRoom_12 rfl (lv_at hl 0 rfl) ?_
        refine va_get (D := D) (ci := 0) (v := .ref a1) (C := RX0) (T := TX0) (N := 11) hx hb hts nX0_makeRoom_X0 hown hK hP 0 rfl rfl 0 (by decide) (hts _ kX0_makeRoom_9) (fun _ h9 => h9) rfl dX0_makeRoom_13 ?_
        refine lv_iload_n hx hb dX0_makeRoom_16 rfl (lv_at hl 3 rfl) ?_
        refine lv_iload_n hx hb dX0_makeRoom_17 rfl (lv_at hl 2 rfl) ?_
        refine r_iadd (v := ((((b : Nat) : Int) - 1) + ((c1 : Nat) : Int))) hx hb (rfl) dX0_makeRoom_18 ?_
        refine lv_aload_n hx hb dX0_makeRoom_19 rfl (lv_at hl 0 rfl) ?_
        refine va_get (D := D) (ci := 0) (v := .ref a1) (C := RX0) (T := TX0) (N := 11) hx hb hts nX0_makeRoom_X0 hown hK hP 0 rfl rfl 0 (by decide) (hts _ kX0_makeRoom_9) (fun _ h9 => h9) rfl dX0_makeRoom_20 ?_
        refine lv_iload_n hx hb dX0_makeRoom_23 rfl (lv_at hl 3 rfl) ?_
        refine r_ialdN hx hb hK hP 1 0 rfl rfl ((((b : Nat) : Int) - 1).toNat) (by omega) (by omega) (by decide) dX0_makeRoom_24 ?_
        refine r_iastN (v := ((shF co b c1 tt) ((((b : Nat) : Int) - 1).toNat))) hx hb hK hP hD hS 1 0 rfl rfl (((((b : Nat) : Int) - 1) + ((c1 : Nat) : Int)).toNat) (by omega) (by omega) (by decide) dX0_makeRoom_25 (fun H locs hP hD hS => ?_)
        have hP : va_P D vwCl [(h, .inr (0, [.ref a1, .ref a2, .ref a3, .int (iI ((tt : Nat) : Int)), .ref a4, .int (iI ((ln : Nat) : Int)), .ref a5, .int (iI ((ed : Nat) : Int)), .int (iI ((es : Nat) : Int)), .int (iI ((ac : Nat) : Int)), .int (iI ((cu : Nat) : Int))])), (a1, .inl (cI, 160, .inl (rN (up (shF co b c1 tt) (((((b : Nat) : Int) - 1) + ((c1 : Nat) : Int)).toNat) ((shF co b c1 tt) ((((b : Nat) : Int) - 1).toNat)))))), (a2, .inl (cI, 160, .inl (rN (shF ow b c1 tt)))), (a3, .inl (cI, 160, .inl (rN (shF er b c1 tt))))] H := hP
        have hD : va_D A [(h, .inr (0, [.ref a1, .ref a2, .ref a3, .int (iI ((tt : Nat) : Int)), .ref a4, .int (iI ((ln : Nat) : Int)), .ref a5, .int (iI ((ed : Nat) : Int)), .int (iI ((es : Nat) : Int)), .int (iI ((ac : Nat) : Int)), .int (iI ((cu : Nat) : Int))])), (a1, .inl (cI, 160, .inl (rN (up (shF co b c1 tt) (((((b : Nat) : Int) - 1) + ((c1 : Nat) : Int)).toNat) ((shF co b c1 tt) ((((b : Nat) : Int) - 1).toNat)))))), (a2, .inl (cI, 160, .inl (rN (shF ow b c1 tt)))), (a3, .inl (cI, 160, .inl (rN (shF er b c1 tt))))] := hD
        refine lv_aload_n hx hb dX0_makeRoom_26 rfl (lv_at hl 0 rfl) ?_
        refine va_get (D := D) (ci := 0) (v := .ref a2) (C := RX0) (T := TX0) (N := 11) hx hb hts nX0_makeRoom_X0 hown hK hP 0 rfl rfl 1 (by decide) (hts _ kX0_makeRoom_15) (fun _ h9 => h9) rfl dX0_makeRoom_27 ?_
        refine lv_iload_n hx hb dX0_makeRoom_30 rfl (lv_at hl 3 rfl) ?_
        refine lv_iload_n hx hb dX0_makeRoom_31 rfl (lv_at hl 2 rfl) ?_
        refine r_iadd (v := ((((b : Nat) : Int) - 1) + ((c1 : Nat) : Int))) hx hb (rfl) dX0_makeRoom_32 ?_
        refine lv_aload_n hx hb dX0_makeRoom_33 rfl (lv_at hl 0 rfl) ?_
        refine va_get (D := D) (ci := 0) (v := .ref a2) (C := RX0) (T := TX0) (N := 11) hx hb hts nX0_makeRoom_X0 hown hK hP 0 rfl rfl 1 (by decide) (hts _ kX0_makeRoom_15) (fun _ h9 => h9) rfl dX0_makeRoom_34 ?_
        refine lv_iload_n hx hb dX0_makeRoom_37 rfl (lv_at hl 3 rfl) ?_
        refine r_ialdN hx hb hK hP 2 0 rfl rfl ((((b : Nat) : Int) - 1).toNat) (by omega) (by omega) (by decide) dX0_makeRoom_38 ?_
        refine r_iastN (v := ((shF ow b c1 tt) ((((b : Nat) : Int) - 1).toNat))) hx hb hK hP hD hS 2 0 rfl rfl (((((b : Nat) : Int) - 1) + ((c1 : Nat) : Int)).toNat) (by omega) (by omega) (by decide) dX0_makeRoom_39 (fun H locs hP hD hS => ?_)
        have hP : va_P D vwCl [(h, .inr (0, [.ref a1, .ref a2, .ref a3, .int (iI ((tt : Nat) : Int)), .ref a4, .int (iI ((ln : Nat) : Int)), .ref a5, .int (iI ((ed : Nat) : Int)), .int (iI ((es : Nat) : Int)), .int (iI ((ac : Nat) : Int)), .int (iI ((cu : Nat) : Int))])), (a1, .inl (cI, 160, .inl (rN (up (shF co b c1 tt) (((((b : Nat) : Int) - 1) + ((c1 : Nat) : Int)).toNat) ((shF co b c1 tt) ((((b : Nat) : Int) - 1).toNat)))))), (a2, .inl (cI, 160, .inl (rN (up (shF ow b c1 tt) (((((b : Nat) : Int) - 1) + ((c1 : Nat) : Int)).toNat) ((shF ow b c1 tt) ((((b : Nat) : Int) - 1).toNat)))))), (a3, .inl (cI, 160, .inl (rN (shF er b c1 tt))))] H := hP
        have hD : va_D A [(h, .inr (0, [.ref a1, .ref a2, .ref a3, .int (iI ((tt : Nat) : Int)), .ref a4, .int (iI ((ln : Nat) : Int)), .ref a5, .int (iI ((ed : Nat) : Int)), .int (iI ((es : Nat) : Int)), .int (iI ((ac : Nat) : Int)), .int (iI ((cu : Nat) : Int))])), (a1, .inl (cI, 160, .inl (rN (up (shF co b c1 tt) (((((b : Nat) : Int) - 1) + ((c1 : Nat) : Int)).toNat) ((shF co b c1 tt) ((((b : Nat) : Int) - 1).toNat)))))), (a2, .inl (cI, 160, .inl (rN (up (shF ow b c1 tt) (((((b : Nat) : Int) - 1) + ((c1 : Nat) : Int)).toNat) ((shF ow b c1 tt) ((((b : Nat) : Int) - 1).toNat)))))), (a3, .inl (cI, 160, .inl (rN (shF er b c1 tt))))] := hD
        refine lv_aload_n hx hb dX0_makeRoom_40 rfl (lv_at hl 0 rfl) ?_
        refine va_get (D := D) (ci := 0) (v := .ref a3) (C := RX0) (T := TX0) (N := 11) hx hb hts nX0_makeRoom_X0 hown hK hP 0 rfl rfl 2 (by decide) (hts _ kX0_makeRoom_18) (fun _ h9 => h9) rfl dX0_makeRoom_41 ?_
        refine lv_iload_n hx hb dX0_makeRoom_44 rfl (lv_at hl 3 rfl) ?_
        refine lv_iload_n hx hb dX0_makeRoom_45 rfl (lv_at hl 2 rfl) ?_
        refine r_iadd (v := ((((b : Nat) : Int) - 1) + ((c1 : Nat) : Int))) hx hb (rfl) dX0_makeRoom_46 ?_
        refine lv_aload_n hx hb dX0_makeRoom_47 rfl (lv_at hl 0 rfl) ?_
        refine va_get (D := D) (ci := 0) (v := .ref a3) (C := RX0) (T := TX0) (N := 11) hx hb hts nX0_makeRoom_X0 hown hK hP 0 rfl rfl 2 (by decide) (hts _ kX0_makeRoom_18) (fun _ h9 => h9) rfl dX0_makeRoom_48 ?_
        refine lv_iload_n hx hb dX0_makeRoom_51 rfl (lv_at hl 3 rfl) ?_
        refine r_ialdN hx hb hK hP 3 0 rfl rfl ((((b : Nat) : Int) - 1).toNat) (by omega) (by omega) (by decide) dX0_makeRoom_52 ?_
        refine r_iastN (v := ((shF er b c1 tt) ((((b : Nat) : Int) - 1).toNat))) hx hb hK hP hD hS 3 0 rfl rfl (((((b : Nat) : Int) - 1) + ((c1 : Nat) : Int)).toNat) (by omega) (by omega) (by decide) dX0_makeRoom_53 (fun H locs hP hD hS => ?_)
        have hP : va_P D vwCl [(h, .inr (0, [.ref a1, .ref a2, .ref a3, .int (iI ((tt : Nat) : Int)), .ref a4, .int (iI ((ln : Nat) : Int)), .ref a5, .int (iI ((ed : Nat) : Int)), .int (iI ((es : Nat) : Int)), .int (iI ((ac : Nat) : Int)), .int (iI ((cu : Nat) : Int))])), (a1, .inl (cI, 160, .inl (rN (up (shF co b c1 tt) (((((b : Nat) : Int) - 1) + ((c1 : Nat) : Int)).toNat) ((shF co b c1 tt) ((((b : Nat) : Int) - 1).toNat)))))), (a2, .inl (cI, 160, .inl (rN (up (shF ow b c1 tt) (((((b : Nat) : Int) - 1) + ((c1 : Nat) : Int)).toNat) ((shF ow b c1 tt) ((((b : Nat) : Int) - 1).toNat)))))), (a3, .inl (cI, 160, .inl (rN (up (shF er b c1 tt) (((((b : Nat) : Int) - 1) + ((c1 : Nat) : Int)).toNat) ((shF er b c1 tt) ((((b : Nat) : Int) - 1).toNat))))))] H := hP
        have hD : va_D A [(h, .inr (0, [.ref a1, .ref a2, .ref a3, .int (iI ((tt : Nat) : Int)), .ref a4, .int (iI ((ln : Nat) : Int)), .ref a5, .int (iI ((ed : Nat) : Int)), .int (iI ((es : Nat) : Int)), .int (iI ((ac : Nat) : Int)), .int (iI ((cu : Nat) : Int))])), (a1, .inl (cI, 160, .inl (rN (up (shF co b c1 tt) (((((b : Nat) : Int) - 1) + ((c1 : Nat) : Int)).toNat) ((shF co b c1 tt) ((((b : Nat) : Int) - 1).toNat)))))), (a2, .inl (cI, 160, .inl (rN (up (shF ow b c1 tt) (((((b : Nat) : Int) - 1) + ((c1 : Nat) : Int)).toNat) ((shF ow b c1 tt) ((((b : Nat) : Int) - 1).toNat)))))), (a3, .inl (cI, 160, .inl (rN (up (shF er b c1 tt) (((((b : Nat) : Int) - 1) + ((c1 : Nat) : Int)).toNat) ((shF er b c1 tt) ((((b : Nat) : Int) - 1).toNat))))))] := hD
        refine lv_iinc (v := iI ((((b : Nat) : Int) - 1) + (-1))) (lv' := [(3, .int (iI ((((b : Nat) : Int) - 1) + (-1)))), (0, .ref h), (1, .int (iI ((b1 : Nat) : Int))), (2, .int (iI ((c1 : Nat) : Int)))]) hx hb dX0_makeRoom_54 hl (k := 3) rfl ((iI_add _ _).trans (ii (rfl))) (by decide) rfl (fun ls hl => ?_)
        refine lv_goto (tgt := 7) hx hb dX0_makeRoom_57 (by decide) ?_
        have hww : ([(h, .inr (0, [.ref a1, .ref a2, .ref a3, .int (iI ((tt : Nat) : Int)), .ref a4, .int (iI ((ln : Nat) : Int)), .ref a5, .int (iI ((ed : Nat) : Int)), .int (iI ((es : Nat) : Int)), .int (iI ((ac : Nat) : Int)), .int (iI ((cu : Nat) : Int))])), (a1, .inl (cI, 160, .inl (rN (up (shF co b c1 tt) (((((b : Nat) : Int) - 1) + ((c1 : Nat) : Int)).toNat) ((shF co b c1 tt) ((((b : Nat) : Int) - 1).toNat)))))), (a2, .inl (cI, 160, .inl (rN (up (shF ow b c1 tt) (((((b : Nat) : Int) - 1) + ((c1 : Nat) : Int)).toNat) ((shF ow b c1 tt) ((((b : Nat) : Int) - 1).toNat)))))), (a3, .inl (cI, 160, .inl (rN (up (shF er b c1 tt) (((((b : Nat) : Int) - 1) + ((c1 : Nat) : Int)).toNat) ((shF er b c1 tt) ((((b : Nat) : Int) - 1).toNat))))))] : va_W) = [(h, .inr (0, [.ref a1, .ref a2, .ref a3, .int (iI ((tt : Nat) : Int)), .ref a4, .int (iI ((ln : Nat) : Int)), .ref a5, .int (iI ((ed : Nat) : Int)), .int (iI ((es : Nat) : Int)), .int (iI ((ac : Nat) : Int)), .int (iI ((cu : Nat) : Int))])), (a1, .inl (cI, 160, .inl (rN (shF co (b - 1) c1 tt)))), (a2, .inl (cI, 160, .inl (rN (shF ow (b - 1) c1 tt)))), (a3, .inl (cI, 160, .inl (rN (shF er (b - 1) c1 tt))))] := by rw [show ((b : Int) - 1).toNat = b - 1 by omega, show ((b : Int) - 1 + (c1 : Int)).toNat = b - 1 + c1 by omega, show shF co b c1 tt = shF co (b - 1 + 1) c1 tt by rw [show b - 1 + 1 = b by omega], show shF ow b c1 tt = shF ow (b - 1 + 1) c1 tt by rw [show b - 1 + 1 = b by omega], show shF er b c1 tt = shF er (b - 1 + 1) c1 tt by rw [show b - 1 + 1 = b by omega], shF_up (by omega), shF_up (by omega), shF_up (by omega)]
        rw [hww] at hP hD
        have hl : lv_has ls 4 [(3, .int (iI ((((b - 1) : Nat) : Int) - 1))), (0, .ref h), (1, .int (iI ((b1 : Nat) : Int))), (2, .int (iI ((c1 : Nat) : Int)))] := lv_chg hl 0 3 rfl (show (((((b : Nat) : Int) - 1) + (-1)) : Int) = ((((b - 1) : Nat) : Int) - 1) from by omega) rfl
        exact ih_7 (b - 1) (by omega) (by first | assumption | (omega)) (by first | assumption | (omega)) H locs hP hD hS ls (lv_sub hl [1, 2, 3, 0] rfl)
  have hww : ([(h, .inr (0, [.ref a1, .ref a2, .ref a3, .int (iI ((tt : Nat) : Int)), .ref a4, .int (iI ((ln : Nat) : Int)), .ref a5, .int (iI ((ed : Nat) : Int)), .int (iI ((es : Nat) : Int)), .int (iI ((ac : Nat) : Int)), .int (iI ((cu : Nat) : Int))])), (a1, .inl (cI, 160, .inl (rN (co)))), (a2, .inl (cI, 160, .inl (rN (ow)))), (a3, .inl (cI, 160, .inl (rN (er))))] : va_W) = [(h, .inr (0, [.ref a1, .ref a2, .ref a3, .int (iI ((tt : Nat) : Int)), .ref a4, .int (iI ((ln : Nat) : Int)), .ref a5, .int (iI ((ed : Nat) : Int)), .int (iI ((es : Nat) : Int)), .int (iI ((ac : Nat) : Int)), .int (iI ((cu : Nat) : Int))])), (a1, .inl (cI, 160, .inl (rN (shF co tt c1 tt)))), (a2, .inl (cI, 160, .inl (rN (shF ow tt c1 tt)))), (a3, .inl (cI, 160, .inl (rN (shF er tt c1 tt))))] := by rw [shF_0, shF_0, shF_0]
  rw [hww] at hP hD
  exact loop_7 ((tt - b1) + 1) tt (by omega) (by first | assumption | (omega)) (by first | assumption | (omega)) s.heap [] hP hD hS ls (lv_sub hl [1, 2, 3, 0] rfl)
