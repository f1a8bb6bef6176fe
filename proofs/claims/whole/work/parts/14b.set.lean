theorem kX5_above_7 : Cond.fieldLink RX5 7 "PricedUndoModel" "s" "[I" ∈ wsX5_above := by decide +kernel
theorem nX5_above_X5 : ∀ w ∈ u_ws RX5 TX5 17, w ∈ wsX5_above := by decide +kernel
theorem kX5_above_34 : Cond.fieldLink RX5 34 "PricedUndoModel" "rests" "[I" ∈ wsX5_above := by decide +kernel
set_option maxHeartbeats 4000000 in
set_option maxRecDepth 100000 in
theorem m_above (l : Launch) (D : va_G) (cI cB cZ cO : ClassId) (hm : Nat) (m1 : Nat) (m2 : Nat) (m3 : Nat) (m4 : Nat) (m5 : Nat) (m6 : Nat) (m7 : Nat) (m8 : Nat) (pa : Nat) (pb : Nat) (cp : Nat) (ty : Nat) (nx : Nat) (fi : Int) (se : Int) (le : Nat) (bp : Int) (cn : Nat) (en : Nat) (ac : Nat) (cu : Nat) (co : Nat → Nat) (au : Nat → Int) (er : Nat → Nat) (ki : Nat → Nat) (bs : Nat → Int) (re : Nat → Nat) (e1 : Nat) (hen : en ≤ 16) (hre : ∀ k, re k < 65536) (he1 : e1 < 16) : Met l yX5_above wsX5_above ({ frames := 0, cells := 0, slots := 0, locals := 0 }) (va_Pc [.ref hm, .int (iI ((e1 : Nat) : Int))] (RO D cI cB cZ cO [(hm, .inr (5, [.ref m1, .ref m2, .ref m3, .int (iI ((pa : Nat) : Int)), .int (iI ((pb : Nat) : Int)), .ref m4, .int (iI ((cp : Nat) : Int)), .ref m5, .int (iI ((ty : Nat) : Int)), .ref m6, .int (iI ((nx : Nat) : Int)), .int (iI (fi)), .int (iI (se)), .int (iI ((le : Nat) : Int)), .ref m7, .int (iI (bp)), .ref m8])), (m1, .inl (cI, 516, .inl (rI (sF cn en ac cu co au er ki bs)))), (m6, .inl (cI, 16, .inl (rN (re))))])) (QO ((dep re en (2 ^ e1) : Nat) : Int)) 0 0 (fun _ => False) := by
  refine startO (cc := cX5_above) (maxL := 4) (ret := (some .int)) (by decide) rfl (Nat.le_of_ble_eq_true rfl) ?_
  intro p e s m below meth c S hr hlocks hE hP ls hl
  have hx := S.1
  have hb := S.2.1
  have hown := S.2.2.2.1
  have hts := S.2.2.2.2
  have hK := hE.1
  have hl : lv_has ls 4 [(0, .ref hm), (1, .int (iI ((e1 : Nat) : Int)))] := hl
  refine r_iconst hx hb dX5_above_0 ?_
  refine lv_istore_n (lv' := [(2, .int (iI 0)), (0, .ref hm), (1, .int (iI ((e1 : Nat) : Int)))]) hx hb dX5_above_1 rfl hl (by decide) rfl (fun ls hl => ?_)
  refine r_iconst hx hb dX5_above_2 ?_
  refine lv_istore_n (lv' := [(3, .int (iI 0)), (2, .int (iI 0)), (0, .ref hm), (1, .int (iI ((e1 : Nat) : Int)))]) hx hb dX5_above_3 rfl hl (by decide) rfl (fun ls hl => ?_)
  have loop_4 : ∀ (n_4 : Nat) (k : Nat), (en - k) < n_4 → (k ≤ en) → ∀ (ls : Array Slot), lv_has ls 4 [(0, .ref hm), (1, .int (iI ((e1 : Nat) : Int))), (2, .int (iI ((dep re k (2 ^ e1) : Nat) : Int))), (3, .int (iI ((k : Nat) : Int)))] → W p l e ({ frames := 0, cells := 0, slots := 0, locals := 0 }) s m ([.ref hm, .int (iI ((e1 : Nat) : Int))] : List Value).toArray below meth c s.heap [] 0 0 (MQ below (QO ((dep re en (2 ^ e1) : Nat) : Int)) ([.ref hm, .int (iI ((e1 : Nat) : Int))] : List Value).toArray s 0 0 (fun _ => False)) (F0 m 4 ls []) := by
    intro n_4
    induction n_4 with
    | zero => intro k h_meas; exact absurd h_meas (Nat.not_lt_zero _)
    | succ n_4 ih_4 =>
      intro k h_m4 ik ls hl
      have hrek := hre k
      have hsl := Nat.shiftRight_le (re k) e1
      have hsa := @Nat.and_le_left ((re k) >>> e1) 1
      have hb1 := tb1 (re k) e1
      have hb0 := tb0 (re k) e1
      refine lv_iload_n hx hb dX5_above_4 rfl (lv_at hl 3 rfl) ?_
      refine lv_aload_n hx hb dX5_above_5 rfl (lv_at hl 0 rfl) ?_
      refine va_get (D := D) (ci := 5) (v := .ref m1) (C := RX5) (T := TX5) (N := 17) hx hb hts nX5_above_X5 hown hK hP 0 rfl rfl 0 (by decide) (hts _ kX5_above_7) (fun _ h9 => h9) rfl dX5_above_6 ?_
      refine r_iconst hx hb dX5_above_9 ?_
      refine r_ialdV (v := ((en : Nat) : Int)) hx hb hK hP 1 0 rfl rfl (1) (rfl) (by decide) (by decide) (rfl) dX5_above_10 ?_
      refine r_icmp_ge (tgt := 44) hx hb (by first | omega | (rw [show k = en by omega])) (by first | omega | (rw [show k = en by omega])) dX5_above_11 (by decide) (fun c_1 => ?_) (fun c_1 => ?_)
      · skip
        refine lv_iload_n hx hb dX5_above_44 rfl (lv_at hl 2 rfl) ?_
        exact r_iretO hx hb hr hlocks (by first | omega | (rw [show k = en by omega])) dX5_above_45
      · skip
        refine lv_iload_n hx hb dX5_above_14 rfl (lv_at hl 2 rfl) ?_
        refine lv_aload_n hx hb dX5_above_15 rfl (lv_at hl 0 rfl) ?_
        refine va_get (D := D) (ci := 5) (v := .ref m6) (C := RX5) (T := TX5) (N := 17) hx hb hts nX5_above_X5 hown hK hP 0 rfl rfl 9 (by decide) (hts _ kX5_above_34) (fun _ h9 => h9) rfl dX5_above_16 ?_
        refine lv_iload_n hx hb dX5_above_19 rfl (lv_at hl 3 rfl) ?_
        refine r_ialdN hx hb hK hP 2 0 rfl rfl (k) (rfl) (by first | omega | (rw [show k = en by omega])) (by decide) dX5_above_20 ?_
        refine lv_iload_n hx hb dX5_above_21 rfl (lv_at hl 1 rfl) ?_
        refine r_ishr hx hb (re k) (e1) (rfl) (rfl) (by first | omega | (rw [show k = en by omega])) (by first | omega | (rw [show k = en by omega])) dX5_above_22 ?_
        refine r_iconst hx hb dX5_above_23 ?_
        refine r_iand hx hb ((re k) >>> e1) (1) (rfl) (rfl) dX5_above_24 ?_
        refine r_iconst hx hb dX5_above_25 ?_
        refine r_icmp_ne (tgt := 35) hx hb (by first | omega | (rw [show k = en by omega])) (⟨by decide, by decide⟩) dX5_above_26 (by decide) (fun c_2 => ?_) (fun c_2 => ?_)
        · skip
          refine r_iconst hx hb dX5_above_35 ?_
          refine r_ior hx hb (dep re k (2 ^ e1)) (0) (rfl) (rfl) dX5_above_36 ?_
          refine lv_istore_n (lv' := [(2, .int (iI (((dep re k (2 ^ e1)) ||| 0 : Nat) : Int))), (0, .ref hm), (1, .int (iI ((e1 : Nat) : Int))), (3, .int (iI ((k : Nat) : Int)))]) hx hb dX5_above_37 rfl hl (by decide) rfl (fun ls hl => ?_)
          refine lv_iinc (v := iI ((k + 1 : Nat) : Int)) (lv' := [(3, .int (iI ((k + 1 : Nat) : Int))), (2, .int (iI (((dep re k (2 ^ e1)) ||| 0 : Nat) : Int))), (0, .ref hm), (1, .int (iI ((e1 : Nat) : Int)))]) hx hb dX5_above_38 hl (k := 3) rfl ((iI_add _ _).trans (ii (rfl))) (by decide) rfl (fun ls hl => ?_)
          refine lv_goto (tgt := 4) hx hb dX5_above_41 (by decide) ?_
          have hl : lv_has ls 4 [(3, .int (iI ((k + 1 : Nat) : Int))), (2, .int (iI ((dep re (k + 1) (2 ^ e1) : Nat) : Int))), (0, .ref hm), (1, .int (iI ((e1 : Nat) : Int)))] := lv_chg hl 1 2 rfl (show ((((dep re k (2 ^ e1)) ||| 0 : Nat) : Int) : Int) = ((dep re (k + 1) (2 ^ e1) : Nat) : Int) from by first | (rw [dep_tb (hb1.mp (by omega))]) | (rw [dep_fb (fun q => by have q1 := hb1.mpr q; omega), Nat.or_zero])) rfl
          exact ih_4 (k + 1) (by first | omega | (rw [show k = en by omega])) (by first | assumption | (first | omega | (rw [show k = en by omega]))) ls (lv_sub hl [2, 3, 1, 0] rfl)
        · skip
          refine r_iconst hx hb dX5_above_29 ?_
          refine lv_iload_n hx hb dX5_above_30 rfl (lv_at hl 3 rfl) ?_
          refine r_shl1 hx hb (k) (rfl) (by first | omega | (rw [show k = en by omega])) dX5_above_31 ?_
          refine lv_goto (tgt := 36) hx hb dX5_above_32 (by decide) ?_
          refine r_ior hx hb (dep re k (2 ^ e1)) (2 ^ k) (rfl) (rfl) dX5_above_36 ?_
          refine lv_istore_n (lv' := [(2, .int (iI (((dep re k (2 ^ e1)) ||| (2 ^ k) : Nat) : Int))), (0, .ref hm), (1, .int (iI ((e1 : Nat) : Int))), (3, .int (iI ((k : Nat) : Int)))]) hx hb dX5_above_37 rfl hl (by decide) rfl (fun ls hl => ?_)
          refine lv_iinc (v := iI ((k + 1 : Nat) : Int)) (lv' := [(3, .int (iI ((k + 1 : Nat) : Int))), (2, .int (iI (((dep re k (2 ^ e1)) ||| (2 ^ k) : Nat) : Int))), (0, .ref hm), (1, .int (iI ((e1 : Nat) : Int)))]) hx hb dX5_above_38 hl (k := 3) rfl ((iI_add _ _).trans (ii (rfl))) (by decide) rfl (fun ls hl => ?_)
          refine lv_goto (tgt := 4) hx hb dX5_above_41 (by decide) ?_
          have hl : lv_has ls 4 [(3, .int (iI ((k + 1 : Nat) : Int))), (2, .int (iI ((dep re (k + 1) (2 ^ e1) : Nat) : Int))), (0, .ref hm), (1, .int (iI ((e1 : Nat) : Int)))] := lv_chg hl 1 2 rfl (show ((((dep re k (2 ^ e1)) ||| (2 ^ k) : Nat) : Int) : Int) = ((dep re (k + 1) (2 ^ e1) : Nat) : Int) from by first | (rw [dep_tb (hb1.mp (by omega))]) | (rw [dep_fb (fun q => by have q1 := hb1.mpr q; omega), Nat.or_zero])) rfl
          exact ih_4 (k + 1) (by first | omega | (rw [show k = en by omega])) (by first | assumption | (first | omega | (rw [show k = en by omega]))) ls (lv_sub hl [2, 3, 1, 0] rfl)
  have hl : lv_has ls 4 [(3, .int (iI 0)), (2, .int (iI ((dep re 0 (2 ^ e1) : Nat) : Int))), (0, .ref hm), (1, .int (iI ((e1 : Nat) : Int)))] := lv_chg hl 1 2 rfl (show (0 : Int) = ((dep re 0 (2 ^ e1) : Nat) : Int) from by rfl) rfl
  exact loop_4 ((en - 0) + 1) 0 (by first | omega | (rw [show k = en by omega])) (by first | assumption | (first | omega | (rw [show k = en by omega]))) ls (lv_sub hl [2, 3, 1, 0] rfl)

theorem kX5_commutes_34 : Cond.fieldLink RX5 34 "PricedUndoModel" "rests" "[I" ∈ wsX5_commutes := by decide +kernel
theorem nX5_commutes_X5 : ∀ w ∈ u_ws RX5 TX5 17, w ∈ wsX5_commutes := by decide +kernel
set_option maxHeartbeats 4000000 in
set_option maxRecDepth 100000 in
theorem m_commutes (l : Launch) (D : va_G) (cI cB cZ cO : ClassId) (hm : Nat) (m1 : Nat) (m2 : Nat) (m3 : Nat) (m4 : Nat) (m5 : Nat) (m6 : Nat) (m7 : Nat) (m8 : Nat) (pa : Nat) (pb : Nat) (cp : Nat) (ty : Nat) (nx : Nat) (fi : Int) (se : Int) (le : Nat) (bp : Int) (cn : Nat) (en : Nat) (ac : Nat) (cu : Nat) (co : Nat → Nat) (au : Nat → Int) (er : Nat → Nat) (ki : Nat → Nat) (bs : Nat → Int) (re : Nat → Nat) (e1 : Nat) (e2 : Nat) (hre : ∀ k, re k < 65536) (he1 : e1 < 16) (he2 : e2 < 16) : Met l yX5_commutes wsX5_commutes ({ frames := 0, cells := 0, slots := 0, locals := 0 }) (va_Pc [.ref hm, .int (iI ((e1 : Nat) : Int)), .int (iI ((e2 : Nat) : Int))] (RO D cI cB cZ cO [(hm, .inr (5, [.ref m1, .ref m2, .ref m3, .int (iI ((pa : Nat) : Int)), .int (iI ((pb : Nat) : Int)), .ref m4, .int (iI ((cp : Nat) : Int)), .ref m5, .int (iI ((ty : Nat) : Int)), .ref m6, .int (iI ((nx : Nat) : Int)), .int (iI (fi)), .int (iI (se)), .int (iI ((le : Nat) : Int)), .ref m7, .int (iI (bp)), .ref m8])), (m1, .inl (cI, 516, .inl (rI (sF cn en ac cu co au er ki bs)))), (m6, .inl (cI, 16, .inl (rN (re))))])) (QO (bI (fre re e1 e2))) 0 0 (fun _ => False) := by
  refine startO (cc := cX5_commutes) (maxL := 3) (ret := (some .boolean)) (by decide) rfl (Nat.le_of_ble_eq_true rfl) ?_
  intro p e s m below meth c S hr hlocks hE hP ls hl
  have hx := S.1
  have hb := S.2.1
  have hown := S.2.2.2.1
  have hts := S.2.2.2.2
  have hK := hE.1
  have hl : lv_has ls 3 [(0, .ref hm), (1, .int (iI ((e1 : Nat) : Int))), (2, .int (iI ((e2 : Nat) : Int)))] := hl
  have hr1 := hre e1
  have hr2 := hre e2
  have hsl := Nat.shiftRight_le (re e1) e2
  have hsa := @Nat.and_le_left ((re e1) >>> e2) 1
  have hb1 := tb1 (re e1) e2
  have hb0 := tb0 (re e1) e2
  have hslq := Nat.shiftRight_le (re e2) e1
  have hsaq := @Nat.and_le_left ((re e2) >>> e1) 1
  have hb1q := tb1 (re e2) e1
  have hb0q := tb0 (re e2) e1
  refine lv_aload_n hx hb dX5_commutes_0 rfl (lv_at hl 0 rfl) ?_
  refine va_get (D := D) (ci := 5) (v := .ref m6) (C := RX5) (T := TX5) (N := 17) hx hb hts nX5_commutes_X5 hown hK hP 0 rfl rfl 9 (by decide) (hts _ kX5_commutes_34) (fun _ h9 => h9) rfl dX5_commutes_1 ?_
  refine lv_iload_n hx hb dX5_commutes_4 rfl (lv_at hl 1 rfl) ?_
  refine r_ialdN hx hb hK hP 2 0 rfl rfl (e1) (rfl) (by first | omega | (exact ⟨fun q => by have q1 := hb1.mpr q; omega, fun q => by have q1 := hb1q.mpr q; omega⟩) | (intro h9; have h8 := hb0.mpr (by have h7 := h9.1; simpa using h7); omega) | (intro h9; have h8 := hb0q.mpr (by have h7 := h9.2; simpa using h7); omega)) (by decide) dX5_commutes_5 ?_
  refine lv_iload_n hx hb dX5_commutes_6 rfl (lv_at hl 2 rfl) ?_
  refine r_ishr hx hb (re e1) (e2) (rfl) (rfl) (by first | omega | (exact ⟨fun q => by have q1 := hb1.mpr q; omega, fun q => by have q1 := hb1q.mpr q; omega⟩) | (intro h9; have h8 := hb0.mpr (by have h7 := h9.1; simpa using h7); omega) | (intro h9; have h8 := hb0q.mpr (by have h7 := h9.2; simpa using h7); omega)) (by first | omega | (exact ⟨fun q => by have q1 := hb1.mpr q; omega, fun q => by have q1 := hb1q.mpr q; omega⟩) | (intro h9; have h8 := hb0.mpr (by have h7 := h9.1; simpa using h7); omega) | (intro h9; have h8 := hb0q.mpr (by have h7 := h9.2; simpa using h7); omega)) dX5_commutes_7 ?_
  refine r_iconst hx hb dX5_commutes_8 ?_
  refine r_iand hx hb ((re e1) >>> e2) (1) (rfl) (rfl) dX5_commutes_9 ?_
  refine r_if_ne (tgt := 30) hx hb (by first | omega | (exact ⟨fun q => by have q1 := hb1.mpr q; omega, fun q => by have q1 := hb1q.mpr q; omega⟩) | (intro h9; have h8 := hb0.mpr (by have h7 := h9.1; simpa using h7); omega) | (intro h9; have h8 := hb0q.mpr (by have h7 := h9.2; simpa using h7); omega)) dX5_commutes_10 (by decide) (fun c_1 => ?_) (fun c_1 => ?_)
  · skip
    refine r_iconst hx hb dX5_commutes_30 ?_
    exact r_zretO hx hb hr hlocks ((bI_f (by first | omega | (exact ⟨fun q => by have q1 := hb1.mpr q; omega, fun q => by have q1 := hb1q.mpr q; omega⟩) | (intro h9; have h8 := hb0.mpr (by have h7 := h9.1; simpa using h7); omega) | (intro h9; have h8 := hb0q.mpr (by have h7 := h9.2; simpa using h7); omega))).symm) (Or.inl rfl) dX5_commutes_31
  · skip
    refine lv_aload_n hx hb dX5_commutes_13 rfl (lv_at hl 0 rfl) ?_
    refine va_get (D := D) (ci := 5) (v := .ref m6) (C := RX5) (T := TX5) (N := 17) hx hb hts nX5_commutes_X5 hown hK hP 0 rfl rfl 9 (by decide) (hts _ kX5_commutes_34) (fun _ h9 => h9) rfl dX5_commutes_14 ?_
    refine lv_iload_n hx hb dX5_commutes_17 rfl (lv_at hl 2 rfl) ?_
    refine r_ialdN hx hb hK hP 2 0 rfl rfl (e2) (rfl) (by first | omega | (exact ⟨fun q => by have q1 := hb1.mpr q; omega, fun q => by have q1 := hb1q.mpr q; omega⟩) | (intro h9; have h8 := hb0.mpr (by have h7 := h9.1; simpa using h7); omega) | (intro h9; have h8 := hb0q.mpr (by have h7 := h9.2; simpa using h7); omega)) (by decide) dX5_commutes_18 ?_
    refine lv_iload_n hx hb dX5_commutes_19 rfl (lv_at hl 1 rfl) ?_
    refine r_ishr hx hb (re e2) (e1) (rfl) (rfl) (by first | omega | (exact ⟨fun q => by have q1 := hb1.mpr q; omega, fun q => by have q1 := hb1q.mpr q; omega⟩) | (intro h9; have h8 := hb0.mpr (by have h7 := h9.1; simpa using h7); omega) | (intro h9; have h8 := hb0q.mpr (by have h7 := h9.2; simpa using h7); omega)) (by first | omega | (exact ⟨fun q => by have q1 := hb1.mpr q; omega, fun q => by have q1 := hb1q.mpr q; omega⟩) | (intro h9; have h8 := hb0.mpr (by have h7 := h9.1; simpa using h7); omega) | (intro h9; have h8 := hb0q.mpr (by have h7 := h9.2; simpa using h7); omega)) dX5_commutes_20 ?_
    refine r_iconst hx hb dX5_commutes_21 ?_
    refine r_iand hx hb ((re e2) >>> e1) (1) (rfl) (rfl) dX5_commutes_22 ?_
    refine r_if_ne (tgt := 30) hx hb (by first | omega | (exact ⟨fun q => by have q1 := hb1.mpr q; omega, fun q => by have q1 := hb1q.mpr q; omega⟩) | (intro h9; have h8 := hb0.mpr (by have h7 := h9.1; simpa using h7); omega) | (intro h9; have h8 := hb0q.mpr (by have h7 := h9.2; simpa using h7); omega)) dX5_commutes_23 (by decide) (fun c_2 => ?_) (fun c_2 => ?_)
    · skip
      refine r_iconst hx hb dX5_commutes_30 ?_
      exact r_zretO hx hb hr hlocks ((bI_f (by first | omega | (exact ⟨fun q => by have q1 := hb1.mpr q; omega, fun q => by have q1 := hb1q.mpr q; omega⟩) | (intro h9; have h8 := hb0.mpr (by have h7 := h9.1; simpa using h7); omega) | (intro h9; have h8 := hb0q.mpr (by have h7 := h9.2; simpa using h7); omega))).symm) (Or.inl rfl) dX5_commutes_31
    · skip
      refine r_iconst hx hb dX5_commutes_26 ?_
      refine lv_goto (tgt := 31) hx hb dX5_commutes_27 (by decide) ?_
      exact r_zretO hx hb hr hlocks ((bI_t (by first | omega | (exact ⟨fun q => by have q1 := hb1.mpr q; omega, fun q => by have q1 := hb1q.mpr q; omega⟩) | (intro h9; have h8 := hb0.mpr (by have h7 := h9.1; simpa using h7); omega) | (intro h9; have h8 := hb0q.mpr (by have h7 := h9.2; simpa using h7); omega))).symm) (Or.inr rfl) dX5_commutes_31

theorem kX5_canGo_7 : Cond.fieldLink RX5 7 "PricedUndoModel" "s" "[I" ∈ wsX5_canGo := by decide +kernel
theorem nX5_canGo_X5 : ∀ w ∈ u_ws RX5 TX5 17, w ∈ wsX5_canGo := by decide +kernel
theorem kX5_canGo_34 : Cond.fieldLink RX5 34 "PricedUndoModel" "rests" "[I" ∈ wsX5_canGo := by decide +kernel
set_option maxHeartbeats 4000000 in
set_option maxRecDepth 100000 in
theorem m_canGo (l : Launch) (D : va_G) (cI cB cZ cO : ClassId) (hm : Nat) (m1 : Nat) (m2 : Nat) (m3 : Nat) (m4 : Nat) (m5 : Nat) (m6 : Nat) (m7 : Nat) (m8 : Nat) (pa : Nat) (pb : Nat) (cp : Nat) (ty : Nat) (nx : Nat) (fi : Int) (se : Int) (le : Nat) (bp : Int) (cn : Nat) (en : Nat) (ac : Nat) (cu : Nat) (co : Nat → Nat) (au : Nat → Int) (er : Nat → Nat) (ki : Nat → Nat) (bs : Nat → Int) (re : Nat → Nat) (st1 : Nat) (hen : en ≤ 16) (hre : ∀ k, re k < 65536) (hac : ac < 65536) (hst : st1 < 65536) : Met l yX5_canGo wsX5_canGo ({ frames := 1, cells := 0, slots := 0, locals := 21 }) (va_Pc [.ref hm, .int (iI ((st1 : Nat) : Int))] (RO D cI cB cZ cO [(hm, .inr (5, [.ref m1, .ref m2, .ref m3, .int (iI ((pa : Nat) : Int)), .int (iI ((pb : Nat) : Int)), .ref m4, .int (iI ((cp : Nat) : Int)), .ref m5, .int (iI ((ty : Nat) : Int)), .ref m6, .int (iI ((nx : Nat) : Int)), .int (iI (fi)), .int (iI (se)), .int (iI ((le : Nat) : Int)), .ref m7, .int (iI (bp)), .ref m8])), (m1, .inl (cI, 516, .inl (rI (sF cn en ac cu co au er ki bs)))), (m6, .inl (cI, 16, .inl (rN (re))))])) (QO (bI (alF (goP re ac st1) en = true))) 0 0 (fun _ => False) := by
  refine startO (cc := cX5_canGo) (maxL := 5) (ret := (some .boolean)) (by decide) rfl (Nat.le_of_ble_eq_true rfl) ?_
  intro p e s m below meth c S hr hlocks hE hP ls hl
  have hx := S.1
  have hb := S.2.1
  have hown := S.2.2.2.1
  have hts := S.2.2.2.2
  have hK := hE.1
  have hl : lv_has ls 5 [(0, .ref hm), (1, .int (iI ((st1 : Nat) : Int)))] := hl
  refine r_iconst hx hb dX5_canGo_0 ?_
  refine lv_istore_n (lv' := [(2, .int (iI 1)), (0, .ref hm), (1, .int (iI ((st1 : Nat) : Int)))]) hx hb dX5_canGo_1 rfl hl (by decide) rfl (fun ls hl => ?_)
  refine r_iconst hx hb dX5_canGo_2 ?_
  refine lv_istore_n (lv' := [(3, .int (iI 0)), (2, .int (iI 1)), (0, .ref hm), (1, .int (iI ((st1 : Nat) : Int)))]) hx hb dX5_canGo_3 rfl hl (by decide) rfl (fun ls hl => ?_)
  have loop_4 : ∀ (n_4 : Nat) (k : Nat), (en - k) < n_4 → (k ≤ en) → ∀ (ls : Array Slot), lv_has ls 5 [(0, .ref hm), (1, .int (iI ((st1 : Nat) : Int))), (2, .int (iI (bI (alF (goP re ac st1) k = true)))), (3, .int (iI ((k : Nat) : Int)))] → W p l e ({ frames := 1, cells := 0, slots := 0, locals := 21 }) s m ([.ref hm, .int (iI ((st1 : Nat) : Int))] : List Value).toArray below meth c s.heap [] 0 0 (MQ below (QO (bI (alF (goP re ac st1) en = true))) ([.ref hm, .int (iI ((st1 : Nat) : Int))] : List Value).toArray s 0 0 (fun _ => False)) (F0 m 4 ls []) := by
    intro n_4
    induction n_4 with
    | zero => intro k h_meas; exact absurd h_meas (Nat.not_lt_zero _)
    | succ n_4 ih_4 =>
      intro k h_m4 ik ls hl
      have hrek := hre k
      have hral := @Nat.and_le_left (re k) st1
      have hnl := nd_le (re k) (st1 ||| ac)
      have hsl := Nat.shiftRight_le st1 k
      have hsa := @Nat.and_le_left (st1 >>> k) 1
      have hb1 := tb1 st1 k
      have hb0 := tb0 st1 k
      refine lv_iload_n hx hb dX5_canGo_4 rfl (lv_at hl 3 rfl) ?_
      refine lv_aload_n hx hb dX5_canGo_5 rfl (lv_at hl 0 rfl) ?_
      refine va_get (D := D) (ci := 5) (v := .ref m1) (C := RX5) (T := TX5) (N := 17) hx hb hts nX5_canGo_X5 hown hK hP 0 rfl rfl 0 (by decide) (hts _ kX5_canGo_7) (fun _ h9 => h9) rfl dX5_canGo_6 ?_
      refine r_iconst hx hb dX5_canGo_9 ?_
      refine r_ialdV (v := ((en : Nat) : Int)) hx hb hK hP 1 0 rfl rfl (1) (rfl) (by decide) (by decide) (rfl) dX5_canGo_10 ?_
      refine r_icmp_ge (tgt := 69) hx hb (by first | omega | (rw [show k = en by omega])) (by first | omega | (rw [show k = en by omega])) dX5_canGo_11 (by decide) (fun c_1 => ?_) (fun c_1 => ?_)
      · skip
        refine lv_iload_n hx hb dX5_canGo_69 rfl (lv_at hl 2 rfl) ?_
        exact r_zretO hx hb hr hlocks (bI_c (by first | omega | (rw [show k = en by omega]))) (bI_01 _) dX5_canGo_70
      · skip
        refine lv_aload_n hx hb dX5_canGo_14 rfl (lv_at hl 0 rfl) ?_
        refine lv_iload_n hx hb dX5_canGo_15 rfl (lv_at hl 3 rfl) ?_
        refine callVO (n := 1) (As := [.int (iI ((k : Nat) : Int))]) (rest := []) (wc := [(hm, .inr (5, [.ref m1, .ref m2, .ref m3, .int (iI ((pa : Nat) : Int)), .int (iI ((pb : Nat) : Int)), .ref m4, .int (iI ((cp : Nat) : Int)), .ref m5, .int (iI ((ty : Nat) : Int)), .ref m6, .int (iI ((nx : Nat) : Int)), .int (iI (fi)), .int (iI (se)), .int (iI ((le : Nat) : Int)), .ref m7, .int (iI (bp)), .ref m8])), (m1, .inl (cI, 516, .inl (rI (sF cn en ac cu co au er ki bs))))]) S (m_isActive l D cI cB cZ cO hm m1 m2 m3 m4 m5 m6 m7 m8 pa pb cp ty nx fi se le bp cn en ac cu co au er ki bs k (by first | assumption | (first | omega | (rw [show k = en by omega]))) (by first | assumption | (first | omega | (rw [show k = en by omega])))) gX5_canGo_X5_isActive rfl ⟨rfl, rfl⟩ (by decide +kernel) ⟨Nat.le_of_ble_eq_true rfl, Nat.le_of_ble_eq_true rfl⟩ hE hP [0, 1] rfl 5 0 rfl rfl rfl hl.1 rfl (Nat.le_of_ble_eq_true rfl) dX5_canGo_16 ⟨Nat.le_of_ble_eq_true rfl, Nat.le_of_ble_eq_true rfl⟩ ?_
        refine r_ifb_eq (tgt := 34) hx hb dX5_canGo_19 (by decide) (fun c_2 => ?_) (fun c_2 => ?_)
        · skip
          refine r_iconst hx hb dX5_canGo_34 ?_
          refine lv_istore (lv' := [(4, .int (iI 0)), (0, .ref hm), (1, .int (iI ((st1 : Nat) : Int))), (2, .int (iI (bI (alF (goP re ac st1) k = true)))), (3, .int (iI ((k : Nat) : Int)))]) hx hb dX5_canGo_35 hl (by decide) rfl (fun ls hl => ?_)
          refine lv_iload_n hx hb dX5_canGo_37 rfl (lv_at hl 3 rfl) ?_
          refine r_ifb_eq (tgt := 61) hx hb dX5_canGo_38 (by decide) (fun c_3 => ?_) (fun c_3 => ?_)
          · skip
            refine r_iconst hx hb dX5_canGo_61 ?_
            refine lv_istore_n (lv' := [(2, .int (iI 0)), (4, .int (iI 0)), (0, .ref hm), (1, .int (iI ((st1 : Nat) : Int))), (3, .int (iI ((k : Nat) : Int)))]) hx hb dX5_canGo_62 rfl hl (by decide) rfl (fun ls hl => ?_)
            refine lv_iinc (v := iI ((k + 1 : Nat) : Int)) (lv' := [(3, .int (iI ((k + 1 : Nat) : Int))), (2, .int (iI 0)), (4, .int (iI 0)), (0, .ref hm), (1, .int (iI ((st1 : Nat) : Int)))]) hx hb dX5_canGo_63 hl (k := 4) rfl ((iI_add _ _).trans (ii (rfl))) (by decide) rfl (fun ls hl => ?_)
            refine lv_goto (tgt := 4) hx hb dX5_canGo_66 (by decide) ?_
            have hl : lv_has ls 5 [(3, .int (iI ((k + 1 : Nat) : Int))), (2, .int (iI (bI (alF (goP re ac st1) (k + 1) = true)))), (4, .int (iI 0)), (0, .ref hm), (1, .int (iI ((st1 : Nat) : Int)))] := lv_chg hl 1 2 rfl (show (0 : Int) = (bI (alF (goP re ac st1) (k + 1) = true)) from by first | exact (bI_t (alF_t (by assumption) (decide_eq_true (fun q => by first | omega | exact absurd q.1 (by assumption) | (have q1 := hb0.mpr q.2; omega))))).symm | exact (bI_f (alF_f1 (by assumption))).symm | exact (bI_f (alF_f2 (fun q => by have q1 := of_decide_eq_true q ⟨by assumption, hb0.mp (by omega)⟩; omega))).symm) rfl
            exact ih_4 (k + 1) (by first | omega | (rw [show k = en by omega])) (by first | assumption | (first | omega | (rw [show k = en by omega]))) ls (lv_sub hl [3, 4, 1, 0] rfl)
          · skip
            refine lv_iload hx hb dX5_canGo_41 (lv_at hl 0 rfl) ?_
            refine r_if_eq (tgt := 57) hx hb (⟨by decide, by decide⟩) dX5_canGo_43 (by decide) (fun c_4 => ?_) (fun c_4 => ?_)
            · skip
              refine r_iconst hx hb dX5_canGo_57 ?_
              refine lv_goto (tgt := 62) hx hb dX5_canGo_58 (by decide) ?_
              refine lv_istore_n (lv' := [(2, .int (iI 1)), (4, .int (iI 0)), (0, .ref hm), (1, .int (iI ((st1 : Nat) : Int))), (3, .int (iI ((k : Nat) : Int)))]) hx hb dX5_canGo_62 rfl hl (by decide) rfl (fun ls hl => ?_)
              refine lv_iinc (v := iI ((k + 1 : Nat) : Int)) (lv' := [(3, .int (iI ((k + 1 : Nat) : Int))), (2, .int (iI 1)), (4, .int (iI 0)), (0, .ref hm), (1, .int (iI ((st1 : Nat) : Int)))]) hx hb dX5_canGo_63 hl (k := 4) rfl ((iI_add _ _).trans (ii (rfl))) (by decide) rfl (fun ls hl => ?_)
              refine lv_goto (tgt := 4) hx hb dX5_canGo_66 (by decide) ?_
              have hl : lv_has ls 5 [(3, .int (iI ((k + 1 : Nat) : Int))), (2, .int (iI (bI (alF (goP re ac st1) (k + 1) = true)))), (4, .int (iI 0)), (0, .ref hm), (1, .int (iI ((st1 : Nat) : Int)))] := lv_chg hl 1 2 rfl (show (1 : Int) = (bI (alF (goP re ac st1) (k + 1) = true)) from by first | exact (bI_t (alF_t (by assumption) (decide_eq_true (fun q => by first | omega | exact absurd q.1 (by assumption) | (have q1 := hb0.mpr q.2; omega))))).symm | exact (bI_f (alF_f1 (by assumption))).symm | exact (bI_f (alF_f2 (fun q => by have q1 := of_decide_eq_true q ⟨by assumption, hb0.mp (by omega)⟩; omega))).symm) rfl
              exact ih_4 (k + 1) (by first | omega | (rw [show k = en by omega])) (by first | assumption | (first | omega | (rw [show k = en by omega]))) ls (lv_sub hl [3, 4, 1, 0] rfl)
            · skip
              exact absurd c_4 (by decide)
        · skip
          refine lv_iload_n hx hb dX5_canGo_22 rfl (lv_at hl 1 rfl) ?_
          refine lv_iload_n hx hb dX5_canGo_23 rfl (lv_at hl 3 rfl) ?_
          refine r_ishr hx hb (st1) (k) (rfl) (rfl) (by first | omega | (rw [show k = en by omega])) (by first | omega | (rw [show k = en by omega])) dX5_canGo_24 ?_
          refine r_iconst hx hb dX5_canGo_25 ?_
          refine r_iand hx hb (st1 >>> k) (1) (rfl) (rfl) dX5_canGo_26 ?_
          refine r_if_ne (tgt := 34) hx hb (rg_nat (Nat.le_trans hsa hsl) (by omega)) dX5_canGo_27 (by decide) (fun c_5 => ?_) (fun c_5 => ?_)
          · skip
            refine r_iconst hx hb dX5_canGo_34 ?_
            refine lv_istore (lv' := [(4, .int (iI 0)), (0, .ref hm), (1, .int (iI ((st1 : Nat) : Int))), (2, .int (iI (bI (alF (goP re ac st1) k = true)))), (3, .int (iI ((k : Nat) : Int)))]) hx hb dX5_canGo_35 hl (by decide) rfl (fun ls hl => ?_)
            refine lv_iload_n hx hb dX5_canGo_37 rfl (lv_at hl 3 rfl) ?_
            refine r_ifb_eq (tgt := 61) hx hb dX5_canGo_38 (by decide) (fun c_6 => ?_) (fun c_6 => ?_)
            · skip
              refine r_iconst hx hb dX5_canGo_61 ?_
              refine lv_istore_n (lv' := [(2, .int (iI 0)), (4, .int (iI 0)), (0, .ref hm), (1, .int (iI ((st1 : Nat) : Int))), (3, .int (iI ((k : Nat) : Int)))]) hx hb dX5_canGo_62 rfl hl (by decide) rfl (fun ls hl => ?_)
              refine lv_iinc (v := iI ((k + 1 : Nat) : Int)) (lv' := [(3, .int (iI ((k + 1 : Nat) : Int))), (2, .int (iI 0)), (4, .int (iI 0)), (0, .ref hm), (1, .int (iI ((st1 : Nat) : Int)))]) hx hb dX5_canGo_63 hl (k := 4) rfl ((iI_add _ _).trans (ii (rfl))) (by decide) rfl (fun ls hl => ?_)
              refine lv_goto (tgt := 4) hx hb dX5_canGo_66 (by decide) ?_
              have hl : lv_has ls 5 [(3, .int (iI ((k + 1 : Nat) : Int))), (2, .int (iI (bI (alF (goP re ac st1) (k + 1) = true)))), (4, .int (iI 0)), (0, .ref hm), (1, .int (iI ((st1 : Nat) : Int)))] := lv_chg hl 1 2 rfl (show (0 : Int) = (bI (alF (goP re ac st1) (k + 1) = true)) from by first | exact (bI_t (alF_t (by assumption) (decide_eq_true (fun q => by first | omega | exact absurd q.1 (by assumption) | (have q1 := hb0.mpr q.2; omega))))).symm | exact (bI_f (alF_f1 (by assumption))).symm | exact (bI_f (alF_f2 (fun q => by have q1 := of_decide_eq_true q ⟨by assumption, hb0.mp (by omega)⟩; omega))).symm) rfl
              exact ih_4 (k + 1) (by first | omega | (rw [show k = en by omega])) (by first | assumption | (first | omega | (rw [show k = en by omega]))) ls (lv_sub hl [3, 4, 1, 0] rfl)
            · skip
              refine lv_iload hx hb dX5_canGo_41 (lv_at hl 0 rfl) ?_
              refine r_if_eq (tgt := 57) hx hb (⟨by decide, by decide⟩) dX5_canGo_43 (by decide) (fun c_7 => ?_) (fun c_7 => ?_)
              · skip
                refine r_iconst hx hb dX5_canGo_57 ?_
                refine lv_goto (tgt := 62) hx hb dX5_canGo_58 (by decide) ?_
                refine lv_istore_n (lv' := [(2, .int (iI 1)), (4, .int (iI 0)), (0, .ref hm), (1, .int (iI ((st1 : Nat) : Int))), (3, .int (iI ((k : Nat) : Int)))]) hx hb dX5_canGo_62 rfl hl (by decide) rfl (fun ls hl => ?_)
                refine lv_iinc (v := iI ((k + 1 : Nat) : Int)) (lv' := [(3, .int (iI ((k + 1 : Nat) : Int))), (2, .int (iI 1)), (4, .int (iI 0)), (0, .ref hm), (1, .int (iI ((st1 : Nat) : Int)))]) hx hb dX5_canGo_63 hl (k := 4) rfl ((iI_add _ _).trans (ii (rfl))) (by decide) rfl (fun ls hl => ?_)
                refine lv_goto (tgt := 4) hx hb dX5_canGo_66 (by decide) ?_
                have hl : lv_has ls 5 [(3, .int (iI ((k + 1 : Nat) : Int))), (2, .int (iI (bI (alF (goP re ac st1) (k + 1) = true)))), (4, .int (iI 0)), (0, .ref hm), (1, .int (iI ((st1 : Nat) : Int)))] := lv_chg hl 1 2 rfl (show (1 : Int) = (bI (alF (goP re ac st1) (k + 1) = true)) from by first | exact (bI_t (alF_t (by assumption) (decide_eq_true (fun q => by first | omega | exact absurd q.1 (by assumption) | (have q1 := hb0.mpr q.2; omega))))).symm | exact (bI_f (alF_f1 (by assumption))).symm | exact (bI_f (alF_f2 (fun q => by have q1 := of_decide_eq_true q ⟨by assumption, hb0.mp (by omega)⟩; omega))).symm) rfl
                exact ih_4 (k + 1) (by first | omega | (rw [show k = en by omega])) (by first | assumption | (first | omega | (rw [show k = en by omega]))) ls (lv_sub hl [3, 4, 1, 0] rfl)
              · skip
                exact absurd c_7 (by decide)
          · skip
            refine r_iconst hx hb dX5_canGo_30 ?_
            refine lv_goto (tgt := 35) hx hb dX5_canGo_31 (by decide) ?_
            refine lv_istore (lv' := [(4, .int (iI 1)), (0, .ref hm), (1, .int (iI ((st1 : Nat) : Int))), (2, .int (iI (bI (alF (goP re ac st1) k = true)))), (3, .int (iI ((k : Nat) : Int)))]) hx hb dX5_canGo_35 hl (by decide) rfl (fun ls hl => ?_)
            refine lv_iload_n hx hb dX5_canGo_37 rfl (lv_at hl 3 rfl) ?_
            refine r_ifb_eq (tgt := 61) hx hb dX5_canGo_38 (by decide) (fun c_8 => ?_) (fun c_8 => ?_)
            · skip
              refine r_iconst hx hb dX5_canGo_61 ?_
              refine lv_istore_n (lv' := [(2, .int (iI 0)), (4, .int (iI 1)), (0, .ref hm), (1, .int (iI ((st1 : Nat) : Int))), (3, .int (iI ((k : Nat) : Int)))]) hx hb dX5_canGo_62 rfl hl (by decide) rfl (fun ls hl => ?_)
              refine lv_iinc (v := iI ((k + 1 : Nat) : Int)) (lv' := [(3, .int (iI ((k + 1 : Nat) : Int))), (2, .int (iI 0)), (4, .int (iI 1)), (0, .ref hm), (1, .int (iI ((st1 : Nat) : Int)))]) hx hb dX5_canGo_63 hl (k := 4) rfl ((iI_add _ _).trans (ii (rfl))) (by decide) rfl (fun ls hl => ?_)
              refine lv_goto (tgt := 4) hx hb dX5_canGo_66 (by decide) ?_
              have hl : lv_has ls 5 [(3, .int (iI ((k + 1 : Nat) : Int))), (2, .int (iI (bI (alF (goP re ac st1) (k + 1) = true)))), (4, .int (iI 1)), (0, .ref hm), (1, .int (iI ((st1 : Nat) : Int)))] := lv_chg hl 1 2 rfl (show (0 : Int) = (bI (alF (goP re ac st1) (k + 1) = true)) from by first | exact (bI_t (alF_t (by assumption) (decide_eq_true (fun q => by first | omega | exact absurd q.1 (by assumption) | (have q1 := hb0.mpr q.2; omega))))).symm | exact (bI_f (alF_f1 (by assumption))).symm | exact (bI_f (alF_f2 (fun q => by have q1 := of_decide_eq_true q ⟨by assumption, hb0.mp (by omega)⟩; omega))).symm) rfl
              exact ih_4 (k + 1) (by first | omega | (rw [show k = en by omega])) (by first | assumption | (first | omega | (rw [show k = en by omega]))) ls (lv_sub hl [3, 4, 1, 0] rfl)
            · skip
              refine lv_iload hx hb dX5_canGo_41 (lv_at hl 0 rfl) ?_
              refine r_if_eq (tgt := 57) hx hb (⟨by decide, by decide⟩) dX5_canGo_43 (by decide) (fun c_9 => ?_) (fun c_9 => ?_)
              · skip
                exact absurd c_9 (by decide)
              · skip
                refine lv_aload_n hx hb dX5_canGo_46 rfl (lv_at hl 1 rfl) ?_
                refine va_get (D := D) (ci := 5) (v := .ref m6) (C := RX5) (T := TX5) (N := 17) hx hb hts nX5_canGo_X5 hown hK hP 0 rfl rfl 9 (by decide) (hts _ kX5_canGo_34) (fun _ h9 => h9) rfl dX5_canGo_47 ?_
                refine lv_iload_n hx hb dX5_canGo_50 rfl (lv_at hl 4 rfl) ?_
                refine r_ialdN hx hb hK hP 2 0 rfl rfl (k) (rfl) (by first | omega | (rw [show k = en by omega])) (by decide) dX5_canGo_51 ?_
                refine lv_iload_n hx hb dX5_canGo_52 rfl (lv_at hl 2 rfl) ?_
                refine r_iand hx hb (re k) (st1) (rfl) (rfl) dX5_canGo_53 ?_
                refine r_if_ne (tgt := 61) hx hb (by first | omega | (rw [show k = en by omega])) dX5_canGo_54 (by decide) (fun c_10 => ?_) (fun c_10 => ?_)
                · skip
                  refine r_iconst hx hb dX5_canGo_61 ?_
                  refine lv_istore_n (lv' := [(2, .int (iI 0)), (4, .int (iI 1)), (0, .ref hm), (1, .int (iI ((st1 : Nat) : Int))), (3, .int (iI ((k : Nat) : Int)))]) hx hb dX5_canGo_62 rfl hl (by decide) rfl (fun ls hl => ?_)
                  refine lv_iinc (v := iI ((k + 1 : Nat) : Int)) (lv' := [(3, .int (iI ((k + 1 : Nat) : Int))), (2, .int (iI 0)), (4, .int (iI 1)), (0, .ref hm), (1, .int (iI ((st1 : Nat) : Int)))]) hx hb dX5_canGo_63 hl (k := 4) rfl ((iI_add _ _).trans (ii (rfl))) (by decide) rfl (fun ls hl => ?_)
                  refine lv_goto (tgt := 4) hx hb dX5_canGo_66 (by decide) ?_
                  have hl : lv_has ls 5 [(3, .int (iI ((k + 1 : Nat) : Int))), (2, .int (iI (bI (alF (goP re ac st1) (k + 1) = true)))), (4, .int (iI 1)), (0, .ref hm), (1, .int (iI ((st1 : Nat) : Int)))] := lv_chg hl 1 2 rfl (show (0 : Int) = (bI (alF (goP re ac st1) (k + 1) = true)) from by first | exact (bI_t (alF_t (by assumption) (decide_eq_true (fun q => by first | omega | exact absurd q.1 (by assumption) | (have q1 := hb0.mpr q.2; omega))))).symm | exact (bI_f (alF_f1 (by assumption))).symm | exact (bI_f (alF_f2 (fun q => by have q1 := of_decide_eq_true q ⟨by assumption, hb0.mp (by omega)⟩; omega))).symm) rfl
                  exact ih_4 (k + 1) (by first | omega | (rw [show k = en by omega])) (by first | assumption | (first | omega | (rw [show k = en by omega]))) ls (lv_sub hl [3, 4, 1, 0] rfl)
                · skip
                  refine r_iconst hx hb dX5_canGo_57 ?_
                  refine lv_goto (tgt := 62) hx hb dX5_canGo_58 (by decide) ?_
                  refine lv_istore_n (lv' := [(2, .int (iI 1)), (4, .int (iI 1)), (0, .ref hm), (1, .int (iI ((st1 : Nat) : Int))), (3, .int (iI ((k : Nat) : Int)))]) hx hb dX5_canGo_62 rfl hl (by decide) rfl (fun ls hl => ?_)
                  refine lv_iinc (v := iI ((k + 1 : Nat) : Int)) (lv' := [(3, .int (iI ((k + 1 : Nat) : Int))), (2, .int (iI 1)), (4, .int (iI 1)), (0, .ref hm), (1, .int (iI ((st1 : Nat) : Int)))]) hx hb dX5_canGo_63 hl (k := 4) rfl ((iI_add _ _).trans (ii (rfl))) (by decide) rfl (fun ls hl => ?_)
                  refine lv_goto (tgt := 4) hx hb dX5_canGo_66 (by decide) ?_
                  have hl : lv_has ls 5 [(3, .int (iI ((k + 1 : Nat) : Int))), (2, .int (iI (bI (alF (goP re ac st1) (k + 1) = true)))), (4, .int (iI 1)), (0, .ref hm), (1, .int (iI ((st1 : Nat) : Int)))] := lv_chg hl 1 2 rfl (show (1 : Int) = (bI (alF (goP re ac st1) (k + 1) = true)) from by first | exact (bI_t (alF_t (by assumption) (decide_eq_true (fun q => by first | omega | exact absurd q.1 (by assumption) | (have q1 := hb0.mpr q.2; omega))))).symm | exact (bI_f (alF_f1 (by assumption))).symm | exact (bI_f (alF_f2 (fun q => by have q1 := of_decide_eq_true q ⟨by assumption, hb0.mp (by omega)⟩; omega))).symm) rfl
                  exact ih_4 (k + 1) (by first | omega | (rw [show k = en by omega])) (by first | assumption | (first | omega | (rw [show k = en by omega]))) ls (lv_sub hl [3, 4, 1, 0] rfl)
  have hl : lv_has ls 5 [(3, .int (iI 0)), (2, .int (iI (bI (alF (goP re ac st1) 0 = true)))), (0, .ref hm), (1, .int (iI ((st1 : Nat) : Int)))] := lv_chg hl 1 2 rfl (show (1 : Int) = (bI (alF (goP re ac st1) 0 = true)) from by exact (bI_t rfl).symm) rfl
  exact loop_4 ((en - 0) + 1) 0 (by first | omega | (rw [show k = en by omega])) (by first | assumption | (first | omega | (rw [show k = en by omega]))) ls (lv_sub hl [2, 3, 1, 0] rfl)

theorem kX5_canCome_7 : Cond.fieldLink RX5 7 "PricedUndoModel" "s" "[I" ∈ wsX5_canCome := by decide +kernel
theorem nX5_canCome_X5 : ∀ w ∈ u_ws RX5 TX5 17, w ∈ wsX5_canCome := by decide +kernel
theorem kX5_canCome_34 : Cond.fieldLink RX5 34 "PricedUndoModel" "rests" "[I" ∈ wsX5_canCome := by decide +kernel
set_option maxHeartbeats 4000000 in
set_option maxRecDepth 100000 in
theorem m_canCome (l : Launch) (D : va_G) (cI cB cZ cO : ClassId) (hm : Nat) (m1 : Nat) (m2 : Nat) (m3 : Nat) (m4 : Nat) (m5 : Nat) (m6 : Nat) (m7 : Nat) (m8 : Nat) (pa : Nat) (pb : Nat) (cp : Nat) (ty : Nat) (nx : Nat) (fi : Int) (se : Int) (le : Nat) (bp : Int) (cn : Nat) (en : Nat) (ac : Nat) (cu : Nat) (co : Nat → Nat) (au : Nat → Int) (er : Nat → Nat) (ki : Nat → Nat) (bs : Nat → Int) (re : Nat → Nat) (st1 : Nat) (hen : en ≤ 16) (hre : ∀ k, re k < 65536) (hac : ac < 65536) (hst : st1 < 65536) : Met l yX5_canCome wsX5_canCome ({ frames := 0, cells := 0, slots := 0, locals := 0 }) (va_Pc [.ref hm, .int (iI ((st1 : Nat) : Int))] (RO D cI cB cZ cO [(hm, .inr (5, [.ref m1, .ref m2, .ref m3, .int (iI ((pa : Nat) : Int)), .int (iI ((pb : Nat) : Int)), .ref m4, .int (iI ((cp : Nat) : Int)), .ref m5, .int (iI ((ty : Nat) : Int)), .ref m6, .int (iI ((nx : Nat) : Int)), .int (iI (fi)), .int (iI (se)), .int (iI ((le : Nat) : Int)), .ref m7, .int (iI (bp)), .ref m8])), (m1, .inl (cI, 516, .inl (rI (sF cn en ac cu co au er ki bs)))), (m6, .inl (cI, 16, .inl (rN (re))))])) (QO (bI (alF (coP re ac st1) en = true))) 0 0 (fun _ => False) := by
  refine startO (cc := cX5_canCome) (maxL := 4) (ret := (some .boolean)) (by decide) rfl (Nat.le_of_ble_eq_true rfl) ?_
  intro p e s m below meth c S hr hlocks hE hP ls hl
  have hx := S.1
  have hb := S.2.1
  have hown := S.2.2.2.1
  have hts := S.2.2.2.2
  have hK := hE.1
  have hl : lv_has ls 4 [(0, .ref hm), (1, .int (iI ((st1 : Nat) : Int)))] := hl
  refine r_iconst hx hb dX5_canCome_0 ?_
  refine lv_istore_n (lv' := [(2, .int (iI 1)), (0, .ref hm), (1, .int (iI ((st1 : Nat) : Int)))]) hx hb dX5_canCome_1 rfl hl (by decide) rfl (fun ls hl => ?_)
  refine r_iconst hx hb dX5_canCome_2 ?_
  refine lv_istore_n (lv' := [(3, .int (iI 0)), (2, .int (iI 1)), (0, .ref hm), (1, .int (iI ((st1 : Nat) : Int)))]) hx hb dX5_canCome_3 rfl hl (by decide) rfl (fun ls hl => ?_)
  have loop_4 : ∀ (n_4 : Nat) (k : Nat), (en - k) < n_4 → (k ≤ en) → ∀ (ls : Array Slot), lv_has ls 4 [(0, .ref hm), (1, .int (iI ((st1 : Nat) : Int))), (2, .int (iI (bI (alF (coP re ac st1) k = true)))), (3, .int (iI ((k : Nat) : Int)))] → W p l e ({ frames := 0, cells := 0, slots := 0, locals := 0 }) s m ([.ref hm, .int (iI ((st1 : Nat) : Int))] : List Value).toArray below meth c s.heap [] 0 0 (MQ below (QO (bI (alF (coP re ac st1) en = true))) ([.ref hm, .int (iI ((st1 : Nat) : Int))] : List Value).toArray s 0 0 (fun _ => False)) (F0 m 4 ls []) := by
    intro n_4
    induction n_4 with
    | zero => intro k h_meas; exact absurd h_meas (Nat.not_lt_zero _)
    | succ n_4 ih_4 =>
      intro k h_m4 ik ls hl
      have hrek := hre k
      have hral := @Nat.and_le_left (re k) st1
      have hnl := nd_le (re k) (st1 ||| ac)
      have hsl := Nat.shiftRight_le st1 k
      have hsa := @Nat.and_le_left (st1 >>> k) 1
      have hb1 := tb1 st1 k
      have hb0 := tb0 st1 k
      refine lv_iload_n hx hb dX5_canCome_4 rfl (lv_at hl 3 rfl) ?_
      refine lv_aload_n hx hb dX5_canCome_5 rfl (lv_at hl 0 rfl) ?_
      refine va_get (D := D) (ci := 5) (v := .ref m1) (C := RX5) (T := TX5) (N := 17) hx hb hts nX5_canCome_X5 hown hK hP 0 rfl rfl 0 (by decide) (hts _ kX5_canCome_7) (fun _ h9 => h9) rfl dX5_canCome_6 ?_
      refine r_iconst hx hb dX5_canCome_9 ?_
      refine r_ialdV (v := ((en : Nat) : Int)) hx hb hK hP 1 0 rfl rfl (1) (rfl) (by decide) (by decide) (rfl) dX5_canCome_10 ?_
      refine r_icmp_ge (tgt := 58) hx hb (by first | omega | (rw [show k = en by omega])) (by first | omega | (rw [show k = en by omega])) dX5_canCome_11 (by decide) (fun c_1 => ?_) (fun c_1 => ?_)
      · skip
        refine lv_iload_n hx hb dX5_canCome_58 rfl (lv_at hl 2 rfl) ?_
        exact r_zretO hx hb hr hlocks (bI_c (by first | omega | (rw [show k = en by omega]))) (bI_01 _) dX5_canCome_59
      · skip
        refine lv_iload_n hx hb dX5_canCome_14 rfl (lv_at hl 2 rfl) ?_
        refine r_ifb_eq (tgt := 50) hx hb dX5_canCome_15 (by decide) (fun c_2 => ?_) (fun c_2 => ?_)
        · skip
          refine r_iconst hx hb dX5_canCome_50 ?_
          refine lv_istore_n (lv' := [(2, .int (iI 0)), (0, .ref hm), (1, .int (iI ((st1 : Nat) : Int))), (3, .int (iI ((k : Nat) : Int)))]) hx hb dX5_canCome_51 rfl hl (by decide) rfl (fun ls hl => ?_)
          refine lv_iinc (v := iI ((k + 1 : Nat) : Int)) (lv' := [(3, .int (iI ((k + 1 : Nat) : Int))), (2, .int (iI 0)), (0, .ref hm), (1, .int (iI ((st1 : Nat) : Int)))]) hx hb dX5_canCome_52 hl (k := 3) rfl ((iI_add _ _).trans (ii (rfl))) (by decide) rfl (fun ls hl => ?_)
          refine lv_goto (tgt := 4) hx hb dX5_canCome_55 (by decide) ?_
          have hl : lv_has ls 4 [(3, .int (iI ((k + 1 : Nat) : Int))), (2, .int (iI (bI (alF (coP re ac st1) (k + 1) = true)))), (0, .ref hm), (1, .int (iI ((st1 : Nat) : Int)))] := lv_chg hl 1 2 rfl (show (0 : Int) = (bI (alF (coP re ac st1) (k + 1) = true)) from by first | exact (bI_t (alF_t (by assumption) (decide_eq_true (fun q => by first | omega | (have q1 := hb1.mpr q; omega))))).symm | exact (bI_f (alF_f1 (by assumption))).symm | exact (bI_f (alF_f2 (fun q => by have q1 := of_decide_eq_true q (by cases h9 : st1.testBit k; (have q2 := hb0.mpr h9; omega); rfl); omega))).symm) rfl
          exact ih_4 (k + 1) (by first | omega | (rw [show k = en by omega])) (by first | assumption | (first | omega | (rw [show k = en by omega]))) ls (lv_sub hl [2, 3, 1, 0] rfl)
        · skip
          refine lv_iload_n hx hb dX5_canCome_18 rfl (lv_at hl 1 rfl) ?_
          refine lv_iload_n hx hb dX5_canCome_19 rfl (lv_at hl 3 rfl) ?_
          refine r_ishr hx hb (st1) (k) (rfl) (rfl) (by first | omega | (rw [show k = en by omega])) (by first | omega | (rw [show k = en by omega])) dX5_canCome_20 ?_
          refine r_iconst hx hb dX5_canCome_21 ?_
          refine r_iand hx hb (st1 >>> k) (1) (rfl) (rfl) dX5_canCome_22 ?_
          refine r_if_eq (tgt := 46) hx hb (rg_nat (Nat.le_trans hsa hsl) (by omega)) dX5_canCome_23 (by decide) (fun c_3 => ?_) (fun c_3 => ?_)
          · skip
            refine r_iconst hx hb dX5_canCome_46 ?_
            refine lv_goto (tgt := 51) hx hb dX5_canCome_47 (by decide) ?_
            refine lv_istore_n (lv' := [(2, .int (iI 1)), (0, .ref hm), (1, .int (iI ((st1 : Nat) : Int))), (3, .int (iI ((k : Nat) : Int)))]) hx hb dX5_canCome_51 rfl hl (by decide) rfl (fun ls hl => ?_)
            refine lv_iinc (v := iI ((k + 1 : Nat) : Int)) (lv' := [(3, .int (iI ((k + 1 : Nat) : Int))), (2, .int (iI 1)), (0, .ref hm), (1, .int (iI ((st1 : Nat) : Int)))]) hx hb dX5_canCome_52 hl (k := 3) rfl ((iI_add _ _).trans (ii (rfl))) (by decide) rfl (fun ls hl => ?_)
            refine lv_goto (tgt := 4) hx hb dX5_canCome_55 (by decide) ?_
            have hl : lv_has ls 4 [(3, .int (iI ((k + 1 : Nat) : Int))), (2, .int (iI (bI (alF (coP re ac st1) (k + 1) = true)))), (0, .ref hm), (1, .int (iI ((st1 : Nat) : Int)))] := lv_chg hl 1 2 rfl (show (1 : Int) = (bI (alF (coP re ac st1) (k + 1) = true)) from by first | exact (bI_t (alF_t (by assumption) (decide_eq_true (fun q => by first | omega | (have q1 := hb1.mpr q; omega))))).symm | exact (bI_f (alF_f1 (by assumption))).symm | exact (bI_f (alF_f2 (fun q => by have q1 := of_decide_eq_true q (by cases h9 : st1.testBit k; (have q2 := hb0.mpr h9; omega); rfl); omega))).symm) rfl
            exact ih_4 (k + 1) (by first | omega | (rw [show k = en by omega])) (by first | assumption | (first | omega | (rw [show k = en by omega]))) ls (lv_sub hl [2, 3, 1, 0] rfl)
          · skip
            refine lv_aload_n hx hb dX5_canCome_26 rfl (lv_at hl 0 rfl) ?_
            refine va_get (D := D) (ci := 5) (v := .ref m6) (C := RX5) (T := TX5) (N := 17) hx hb hts nX5_canCome_X5 hown hK hP 0 rfl rfl 9 (by decide) (hts _ kX5_canCome_34) (fun _ h9 => h9) rfl dX5_canCome_27 ?_
            refine lv_iload_n hx hb dX5_canCome_30 rfl (lv_at hl 3 rfl) ?_
            refine r_ialdN hx hb hK hP 2 0 rfl rfl (k) (rfl) (by first | omega | (rw [show k = en by omega])) (by decide) dX5_canCome_31 ?_
            refine lv_iload_n hx hb dX5_canCome_32 rfl (lv_at hl 1 rfl) ?_
            refine lv_aload_n hx hb dX5_canCome_33 rfl (lv_at hl 0 rfl) ?_
            refine va_get (D := D) (ci := 5) (v := .ref m1) (C := RX5) (T := TX5) (N := 17) hx hb hts nX5_canCome_X5 hown hK hP 0 rfl rfl 0 (by decide) (hts _ kX5_canCome_7) (fun _ h9 => h9) rfl dX5_canCome_34 ?_
            refine r_iconst hx hb dX5_canCome_37 ?_
            refine r_ialdV (v := ((ac : Nat) : Int)) hx hb hK hP 1 0 rfl rfl (2) (rfl) (by decide) (by decide) (rfl) dX5_canCome_38 ?_
            refine r_ior hx hb (st1) (ac) (rfl) (rfl) dX5_canCome_39 ?_
            refine r_iconst hx hb dX5_canCome_40 ?_
            refine r_inot (v := (-1 - ((st1 ||| ac : Nat) : Int))) hx hb (rfl) dX5_canCome_41 ?_
            refine r_iandnot hx hb (re k) (st1 ||| ac) (rfl) rfl dX5_canCome_42 ?_
            refine r_if_ne (tgt := 50) hx hb (by first | omega | (rw [show k = en by omega])) dX5_canCome_43 (by decide) (fun c_4 => ?_) (fun c_4 => ?_)
            · skip
              refine r_iconst hx hb dX5_canCome_50 ?_
              refine lv_istore_n (lv' := [(2, .int (iI 0)), (0, .ref hm), (1, .int (iI ((st1 : Nat) : Int))), (3, .int (iI ((k : Nat) : Int)))]) hx hb dX5_canCome_51 rfl hl (by decide) rfl (fun ls hl => ?_)
              refine lv_iinc (v := iI ((k + 1 : Nat) : Int)) (lv' := [(3, .int (iI ((k + 1 : Nat) : Int))), (2, .int (iI 0)), (0, .ref hm), (1, .int (iI ((st1 : Nat) : Int)))]) hx hb dX5_canCome_52 hl (k := 3) rfl ((iI_add _ _).trans (ii (rfl))) (by decide) rfl (fun ls hl => ?_)
              refine lv_goto (tgt := 4) hx hb dX5_canCome_55 (by decide) ?_
              have hl : lv_has ls 4 [(3, .int (iI ((k + 1 : Nat) : Int))), (2, .int (iI (bI (alF (coP re ac st1) (k + 1) = true)))), (0, .ref hm), (1, .int (iI ((st1 : Nat) : Int)))] := lv_chg hl 1 2 rfl (show (0 : Int) = (bI (alF (coP re ac st1) (k + 1) = true)) from by first | exact (bI_t (alF_t (by assumption) (decide_eq_true (fun q => by first | omega | (have q1 := hb1.mpr q; omega))))).symm | exact (bI_f (alF_f1 (by assumption))).symm | exact (bI_f (alF_f2 (fun q => by have q1 := of_decide_eq_true q (by cases h9 : st1.testBit k; (have q2 := hb0.mpr h9; omega); rfl); omega))).symm) rfl
              exact ih_4 (k + 1) (by first | omega | (rw [show k = en by omega])) (by first | assumption | (first | omega | (rw [show k = en by omega]))) ls (lv_sub hl [2, 3, 1, 0] rfl)
            · skip
              refine r_iconst hx hb dX5_canCome_46 ?_
              refine lv_goto (tgt := 51) hx hb dX5_canCome_47 (by decide) ?_
              refine lv_istore_n (lv' := [(2, .int (iI 1)), (0, .ref hm), (1, .int (iI ((st1 : Nat) : Int))), (3, .int (iI ((k : Nat) : Int)))]) hx hb dX5_canCome_51 rfl hl (by decide) rfl (fun ls hl => ?_)
              refine lv_iinc (v := iI ((k + 1 : Nat) : Int)) (lv' := [(3, .int (iI ((k + 1 : Nat) : Int))), (2, .int (iI 1)), (0, .ref hm), (1, .int (iI ((st1 : Nat) : Int)))]) hx hb dX5_canCome_52 hl (k := 3) rfl ((iI_add _ _).trans (ii (rfl))) (by decide) rfl (fun ls hl => ?_)
              refine lv_goto (tgt := 4) hx hb dX5_canCome_55 (by decide) ?_
              have hl : lv_has ls 4 [(3, .int (iI ((k + 1 : Nat) : Int))), (2, .int (iI (bI (alF (coP re ac st1) (k + 1) = true)))), (0, .ref hm), (1, .int (iI ((st1 : Nat) : Int)))] := lv_chg hl 1 2 rfl (show (1 : Int) = (bI (alF (coP re ac st1) (k + 1) = true)) from by first | exact (bI_t (alF_t (by assumption) (decide_eq_true (fun q => by first | omega | (have q1 := hb1.mpr q; omega))))).symm | exact (bI_f (alF_f1 (by assumption))).symm | exact (bI_f (alF_f2 (fun q => by have q1 := of_decide_eq_true q (by cases h9 : st1.testBit k; (have q2 := hb0.mpr h9; omega); rfl); omega))).symm) rfl
              exact ih_4 (k + 1) (by first | omega | (rw [show k = en by omega])) (by first | assumption | (first | omega | (rw [show k = en by omega]))) ls (lv_sub hl [2, 3, 1, 0] rfl)
  have hl : lv_has ls 4 [(3, .int (iI 0)), (2, .int (iI (bI (alF (coP re ac st1) 0 = true)))), (0, .ref hm), (1, .int (iI ((st1 : Nat) : Int)))] := lv_chg hl 1 2 rfl (show (1 : Int) = (bI (alF (coP re ac st1) 0 = true)) from by exact (bI_t rfl).symm) rfl
  exact loop_4 ((en - 0) + 1) 0 (by first | omega | (rw [show k = en by omega])) (by first | assumption | (first | omega | (rw [show k = en by omega]))) ls (lv_sub hl [2, 3, 1, 0] rfl)

theorem kX5_closureOf_7 : Cond.fieldLink RX5 7 "PricedUndoModel" "s" "[I" ∈ wsX5_closureOf := by decide +kernel
theorem nX5_closureOf_X5 : ∀ w ∈ u_ws RX5 TX5 17, w ∈ wsX5_closureOf := by decide +kernel
set_option maxHeartbeats 4000000 in
set_option maxRecDepth 100000 in
theorem m_closureOf (l : Launch) (D : va_G) (cI cB cZ cO : ClassId) (hm : Nat) (m1 : Nat) (m2 : Nat) (m3 : Nat) (m4 : Nat) (m5 : Nat) (m6 : Nat) (m7 : Nat) (m8 : Nat) (pa : Nat) (pb : Nat) (cp : Nat) (ty : Nat) (nx : Nat) (fi : Int) (se : Int) (le : Nat) (bp : Int) (cn : Nat) (en : Nat) (ac : Nat) (cu : Nat) (co : Nat → Nat) (au : Nat → Int) (er : Nat → Nat) (ki : Nat → Nat) (bs : Nat → Int) (re : Nat → Nat) (e1 : Nat) (hen : en ≤ 16) (hre : ∀ k, re k < 65536) (he1 : e1 < 16) : Met l yX5_closureOf wsX5_closureOf ({ frames := 1, cells := 0, slots := 0, locals := 23 }) (va_Pc [.ref hm, .int (iI ((e1 : Nat) : Int))] (RO D cI cB cZ cO [(hm, .inr (5, [.ref m1, .ref m2, .ref m3, .int (iI ((pa : Nat) : Int)), .int (iI ((pb : Nat) : Int)), .ref m4, .int (iI ((cp : Nat) : Int)), .ref m5, .int (iI ((ty : Nat) : Int)), .ref m6, .int (iI ((nx : Nat) : Int)), .int (iI (fi)), .int (iI (se)), .int (iI ((le : Nat) : Int)), .ref m7, .int (iI (bp)), .ref m8])), (m1, .inl (cI, 516, .inl (rI (sF cn en ac cu co au er ki bs)))), (m6, .inl (cI, 16, .inl (rN (re))))])) (QO ((2 ^ e1 ||| (dep re en (2 ^ e1) &&& ac) : Nat) : Int)) 0 0 (fun _ => False) := by
  refine startO (cc := cX5_closureOf) (maxL := 2) (ret := (some .int)) (by decide) rfl (Nat.le_of_ble_eq_true rfl) ?_
  intro p e s m below meth c S hr hlocks hE hP ls hl
  have hx := S.1
  have hb := S.2.1
  have hown := S.2.2.2.1
  have hts := S.2.2.2.2
  have hK := hE.1
  have hl : lv_has ls 2 [(0, .ref hm), (1, .int (iI ((e1 : Nat) : Int)))] := hl
  refine r_iconst hx hb dX5_closureOf_0 ?_
  refine lv_iload_n hx hb dX5_closureOf_1 rfl (lv_at hl 1 rfl) ?_
  refine r_shl1 hx hb (e1) (rfl) (by omega) dX5_closureOf_2 ?_
  refine lv_aload_n hx hb dX5_closureOf_3 rfl (lv_at hl 0 rfl) ?_
  refine lv_iload_n hx hb dX5_closureOf_4 rfl (lv_at hl 1 rfl) ?_
  refine callVO (n := 1) (As := [.int (iI ((e1 : Nat) : Int))]) (rest := [.int (iI ((2 ^ e1 : Nat) : Int))]) (wc := [(hm, .inr (5, [.ref m1, .ref m2, .ref m3, .int (iI ((pa : Nat) : Int)), .int (iI ((pb : Nat) : Int)), .ref m4, .int (iI ((cp : Nat) : Int)), .ref m5, .int (iI ((ty : Nat) : Int)), .ref m6, .int (iI ((nx : Nat) : Int)), .int (iI (fi)), .int (iI (se)), .int (iI ((le : Nat) : Int)), .ref m7, .int (iI (bp)), .ref m8])), (m1, .inl (cI, 516, .inl (rI (sF cn en ac cu co au er ki bs)))), (m6, .inl (cI, 16, .inl (rN (re))))]) S (m_above l D cI cB cZ cO hm m1 m2 m3 m4 m5 m6 m7 m8 pa pb cp ty nx fi se le bp cn en ac cu co au er ki bs re e1 (by first | assumption | (omega)) (by first | assumption | (omega)) (by first | assumption | (omega))) gX5_closureOf_X5_above rfl ⟨rfl, rfl⟩ (by decide +kernel) ⟨Nat.le_of_ble_eq_true rfl, Nat.le_of_ble_eq_true rfl⟩ hE hP [0, 1, 2] rfl 5 0 rfl rfl rfl hl.1 rfl (Nat.le_of_ble_eq_true rfl) dX5_closureOf_5 ⟨Nat.le_of_ble_eq_true rfl, Nat.le_of_ble_eq_true rfl⟩ ?_
  refine lv_aload_n hx hb dX5_closureOf_8 rfl (lv_at hl 0 rfl) ?_
  refine va_get (D := D) (ci := 5) (v := .ref m1) (C := RX5) (T := TX5) (N := 17) hx hb hts nX5_closureOf_X5 hown hK hP 0 rfl rfl 0 (by decide) (hts _ kX5_closureOf_7) (fun _ h9 => h9) rfl dX5_closureOf_9 ?_
  refine r_iconst hx hb dX5_closureOf_12 ?_
  refine r_ialdV (v := ((ac : Nat) : Int)) hx hb hK hP 1 0 rfl rfl (2) (rfl) (by decide) (by decide) (rfl) dX5_closureOf_13 ?_
  refine r_iand hx hb (dep re en (2 ^ e1)) (ac) (rfl) (rfl) dX5_closureOf_14 ?_
  refine r_ior hx hb (2 ^ e1) ((dep re en (2 ^ e1)) &&& ac) (rfl) (rfl) dX5_closureOf_15 ?_
  exact r_iretO hx hb hr hlocks (by omega) dX5_closureOf_16

theorem kX5_openingOf_34 : Cond.fieldLink RX5 34 "PricedUndoModel" "rests" "[I" ∈ wsX5_openingOf := by decide +kernel
theorem nX5_openingOf_X5 : ∀ w ∈ u_ws RX5 TX5 17, w ∈ wsX5_openingOf := by decide +kernel
theorem kX5_openingOf_7 : Cond.fieldLink RX5 7 "PricedUndoModel" "s" "[I" ∈ wsX5_openingOf := by decide +kernel
set_option maxHeartbeats 4000000 in
set_option maxRecDepth 100000 in
theorem m_openingOf (l : Launch) (D : va_G) (cI cB cZ cO : ClassId) (hm : Nat) (m1 : Nat) (m2 : Nat) (m3 : Nat) (m4 : Nat) (m5 : Nat) (m6 : Nat) (m7 : Nat) (m8 : Nat) (pa : Nat) (pb : Nat) (cp : Nat) (ty : Nat) (nx : Nat) (fi : Int) (se : Int) (le : Nat) (bp : Int) (cn : Nat) (en : Nat) (ac : Nat) (cu : Nat) (co : Nat → Nat) (au : Nat → Int) (er : Nat → Nat) (ki : Nat → Nat) (bs : Nat → Int) (re : Nat → Nat) (e1 : Nat) (he1 : e1 < 16) : Met l yX5_openingOf wsX5_openingOf ({ frames := 0, cells := 0, slots := 0, locals := 0 }) (va_Pc [.ref hm, .int (iI ((e1 : Nat) : Int))] (RO D cI cB cZ cO [(hm, .inr (5, [.ref m1, .ref m2, .ref m3, .int (iI ((pa : Nat) : Int)), .int (iI ((pb : Nat) : Int)), .ref m4, .int (iI ((cp : Nat) : Int)), .ref m5, .int (iI ((ty : Nat) : Int)), .ref m6, .int (iI ((nx : Nat) : Int)), .int (iI (fi)), .int (iI (se)), .int (iI ((le : Nat) : Int)), .ref m7, .int (iI (bp)), .ref m8])), (m1, .inl (cI, 516, .inl (rI (sF cn en ac cu co au er ki bs)))), (m6, .inl (cI, 16, .inl (rN (re))))])) (QO ((2 ^ e1 ||| nd (re e1) ac : Nat) : Int)) 0 0 (fun _ => False) := by
  refine startO (cc := cX5_openingOf) (maxL := 2) (ret := (some .int)) (by decide) rfl (Nat.le_of_ble_eq_true rfl) ?_
  intro p e s m below meth c S hr hlocks hE hP ls hl
  have hx := S.1
  have hb := S.2.1
  have hown := S.2.2.2.1
  have hts := S.2.2.2.2
  have hK := hE.1
  have hl : lv_has ls 2 [(0, .ref hm), (1, .int (iI ((e1 : Nat) : Int)))] := hl
  refine r_iconst hx hb dX5_openingOf_0 ?_
  refine lv_iload_n hx hb dX5_openingOf_1 rfl (lv_at hl 1 rfl) ?_
  refine r_shl1 hx hb (e1) (rfl) (by omega) dX5_openingOf_2 ?_
  refine lv_aload_n hx hb dX5_openingOf_3 rfl (lv_at hl 0 rfl) ?_
  refine va_get (D := D) (ci := 5) (v := .ref m6) (C := RX5) (T := TX5) (N := 17) hx hb hts nX5_openingOf_X5 hown hK hP 0 rfl rfl 9 (by decide) (hts _ kX5_openingOf_34) (fun _ h9 => h9) rfl dX5_openingOf_4 ?_
  refine lv_iload_n hx hb dX5_openingOf_7 rfl (lv_at hl 1 rfl) ?_
  refine r_ialdN hx hb hK hP 2 0 rfl rfl (e1) (rfl) (by omega) (by decide) dX5_openingOf_8 ?_
  refine lv_aload_n hx hb dX5_openingOf_9 rfl (lv_at hl 0 rfl) ?_
  refine va_get (D := D) (ci := 5) (v := .ref m1) (C := RX5) (T := TX5) (N := 17) hx hb hts nX5_openingOf_X5 hown hK hP 0 rfl rfl 0 (by decide) (hts _ kX5_openingOf_7) (fun _ h9 => h9) rfl dX5_openingOf_10 ?_
  refine r_iconst hx hb dX5_openingOf_13 ?_
  refine r_ialdV (v := ((ac : Nat) : Int)) hx hb hK hP 1 0 rfl rfl (2) (rfl) (by decide) (by decide) (rfl) dX5_openingOf_14 ?_
  refine r_iconst hx hb dX5_openingOf_15 ?_
  refine r_inot (v := (-1 - ((ac : Nat) : Int))) hx hb (rfl) dX5_openingOf_16 ?_
  refine r_iandnot hx hb (re e1) (ac) (rfl) rfl dX5_openingOf_17 ?_
  refine r_ior hx hb (2 ^ e1) (nd (re e1) ac) (rfl) (rfl) dX5_openingOf_18 ?_
  exact r_iretO hx hb hr hlocks (by omega) dX5_openingOf_19
