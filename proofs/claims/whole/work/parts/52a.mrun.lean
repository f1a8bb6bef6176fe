set_option maxHeartbeats 4000000 in
set_option maxRecDepth 100000 in
theorem m_run_bad (l : Launch) (D : va_G) (cI cB cZ cO : ClassId) (hm : Nat) (m1 : Nat) (m2 : Nat) (m3 : Nat) (m4 : Nat) (m5 : Nat) (m6 : Nat) (m7 : Nat) (m8 : Nat) (pa : Nat) (pb : Nat) (cp : Nat) (ty : Nat) (nx : Nat) (fi : Int) (se : Int) (le : Nat) (bp : Int) (cn : Nat) (en : Nat) (ac : Nat) (cu : Nat) (co : Nat → Nat) (au : Nat → Int) (er : Nat → Nat) (ki : Nat → Nat) (bs : Nat → Int) (x : Int) (y : Int) (hen : en ≤ 16) (rx : rg x) (ry : rg y) (hbad : ¬ ((x = -1 ∨ (0 ≤ x ∧ x < (en : Int))) ∧ 0 ≤ y ∧ y ≤ 1)) : Met l yX5_run wsX5_run ({ frames := 2, cells := 0, slots := 0, locals := 43 }) (va_Pc [.ref hm, .int (iI (x)), .int (iI (y))] (RO D cI cB cZ cO [(hm, .inr (5, [.ref m1, .ref m2, .ref m3, .int (iI ((pa : Nat) : Int)), .int (iI ((pb : Nat) : Int)), .ref m4, .int (iI ((cp : Nat) : Int)), .ref m5, .int (iI ((ty : Nat) : Int)), .ref m6, .int (iI ((nx : Nat) : Int)), .int (iI (fi)), .int (iI (se)), .int (iI ((le : Nat) : Int)), .ref m7, .int (iI (bp)), .ref m8])), (m1, .inl (cI, 516, .inl (rI (sF cn en ac cu co au er ki bs))))])) (QO (-1)) 0 0 (fun _ => False) := by
  refine startO (cc := cX5_run) (maxL := 8) (ret := (some .int)) (by decide) rfl (Nat.le_of_ble_eq_true rfl) ?_
  intro p e s m below meth c S hr hlocks hE hP ls hl
  have hx := S.1
  have hb := S.2.1
  have hown := S.2.2.2.1
  have hts := S.2.2.2.2
  have hK := hE.1
  have hl : lv_has ls 8 [(0, .ref hm), (1, .int (iI (x))), (2, .int (iI (y)))] := hl
  refine lv_iload_n hx hb dX5_run_0 rfl (lv_at hl 1 rfl) ?_
  refine r_iconst hx hb dX5_run_1 ?_
  refine r_icmp_eq (tgt := 13) hx hb (by omega) (⟨by decide, by decide⟩) dX5_run_2 (by decide) (fun c_1 => ?_) (fun c_1 => ?_)
  · skip
    refine lv_iload_n hx hb dX5_run_13 rfl (lv_at hl 2 rfl) ?_
    refine r_iconst hx hb dX5_run_14 ?_
    refine r_iconst hx hb dX5_run_15 ?_
    rw [show (0 : Int) = (0) from by omega]
    rw [show (1 : Int) = (1) from by omega]
    refine callSO (n := 3) (As := [.int (iI (y)), .int (iI (0)), .int (iI (1))]) (rest := []) (wc := []) S (m_in l D cI cB cZ cO y 0 1 (by first | assumption | (omega)) (by first | assumption | (omega)) (by first | assumption | (omega))) gX5_run_X5_in rfl ⟨rfl, rfl⟩ (by decide +kernel) ⟨Nat.le_of_ble_eq_true rfl, Nat.le_of_ble_eq_true rfl⟩ hE hP [] rfl rfl hl.1 rfl (Nat.le_of_ble_eq_true rfl) dX5_run_16 ⟨Nat.le_of_ble_eq_true rfl, Nat.le_of_ble_eq_true rfl⟩ ?_
    refine r_ifb_ne (tgt := 24) hx hb dX5_run_19 (by decide) (fun c_2 => ?_) (fun c_2 => ?_)
    · skip
      exfalso; omega
    · skip
      refine r_iconst hx hb dX5_run_22 ?_
      exact r_iretO hx hb hr hlocks (rfl) dX5_run_23
  · skip
    refine lv_aload_n hx hb dX5_run_5 rfl (lv_at hl 0 rfl) ?_
    refine lv_iload_n hx hb dX5_run_6 rfl (lv_at hl 1 rfl) ?_
    refine callVO (n := 1) (As := [.int (iI (x))]) (rest := []) (wc := [(hm, .inr (5, [.ref m1, .ref m2, .ref m3, .int (iI ((pa : Nat) : Int)), .int (iI ((pb : Nat) : Int)), .ref m4, .int (iI ((cp : Nat) : Int)), .ref m5, .int (iI ((ty : Nat) : Int)), .ref m6, .int (iI ((nx : Nat) : Int)), .int (iI (fi)), .int (iI (se)), .int (iI ((le : Nat) : Int)), .ref m7, .int (iI (bp)), .ref m8])), (m1, .inl (cI, 516, .inl (rI (sF cn en ac cu co au er ki bs))))]) S (m_isEdit l D cI cB cZ cO hm m1 m2 m3 m4 m5 m6 m7 m8 pa pb cp ty nx fi se le bp cn en ac cu co au er ki bs x (by first | assumption | (omega)) (by first | assumption | (omega))) gX5_run_X5_isEdit rfl ⟨rfl, rfl⟩ (by decide +kernel) ⟨Nat.le_of_ble_eq_true rfl, Nat.le_of_ble_eq_true rfl⟩ hE hP [0, 1] rfl 5 0 rfl rfl rfl hl.1 rfl (Nat.le_of_ble_eq_true rfl) dX5_run_7 ⟨Nat.le_of_ble_eq_true rfl, Nat.le_of_ble_eq_true rfl⟩ ?_
    refine r_ifb_eq (tgt := 22) hx hb dX5_run_10 (by decide) (fun c_3 => ?_) (fun c_3 => ?_)
    · skip
      refine r_iconst hx hb dX5_run_22 ?_
      exact r_iretO hx hb hr hlocks (rfl) dX5_run_23
    · skip
      refine lv_iload_n hx hb dX5_run_13 rfl (lv_at hl 2 rfl) ?_
      refine r_iconst hx hb dX5_run_14 ?_
      refine r_iconst hx hb dX5_run_15 ?_
      rw [show (0 : Int) = (0) from by omega]
      rw [show (1 : Int) = (1) from by omega]
      refine callSO (n := 3) (As := [.int (iI (y)), .int (iI (0)), .int (iI (1))]) (rest := []) (wc := []) S (m_in l D cI cB cZ cO y 0 1 (by first | assumption | (omega)) (by first | assumption | (omega)) (by first | assumption | (omega))) gX5_run_X5_in rfl ⟨rfl, rfl⟩ (by decide +kernel) ⟨Nat.le_of_ble_eq_true rfl, Nat.le_of_ble_eq_true rfl⟩ hE hP [] rfl rfl hl.1 rfl (Nat.le_of_ble_eq_true rfl) dX5_run_16 ⟨Nat.le_of_ble_eq_true rfl, Nat.le_of_ble_eq_true rfl⟩ ?_
      refine r_ifb_ne (tgt := 24) hx hb dX5_run_19 (by decide) (fun c_4 => ?_) (fun c_4 => ?_)
      · skip
        exfalso; omega
      · skip
        refine r_iconst hx hb dX5_run_22 ?_
        exact r_iretO hx hb hr hlocks (rfl) dX5_run_23

theorem kX5_run_7 : Cond.fieldLink RX5 7 "PricedUndoModel" "s" "[I" ∈ wsX5_run := List.mem_of_getElem? (i := 1) (by decide +kernel)
theorem nX5_run_X5 : ∀ w ∈ u_ws RX5 TX5 17, w ∈ wsX5_run := in_lay 14 (by decide +kernel)
set_option maxHeartbeats 4000000 in
set_option maxRecDepth 100000 in
theorem m_run_0 (l : Launch) (D : va_G) (cI cB cZ cO : ClassId) (hm : Nat) (m1 : Nat) (m2 : Nat) (m3 : Nat) (m4 : Nat) (m5 : Nat) (m6 : Nat) (m7 : Nat) (m8 : Nat) (pa : Nat) (pb : Nat) (cp : Nat) (ty : Nat) (nx : Nat) (fi : Int) (se : Int) (le : Nat) (bp : Int) (cn : Nat) (en : Nat) (ac : Nat) (cu : Nat) (co : Nat → Nat) (au : Nat → Int) (er : Nat → Nat) (ki : Nat → Nat) (bs : Nat → Int) (x : Int) (qb : Nat → Bool) (hcn : cn ≤ 160) (hac : ac < 65536) (hau : ∀ k, -1 ≤ au k ∧ au k < 16) (her : ∀ k, er k < 65536) (hen : en ≤ 16) (rx : rg x) (hx : x = -1 ∨ (0 ≤ x ∧ x < (en : Int))) (hqb : ∀ k, k < cn → vis (omF au) er ac k → (qb (cnt (visb (omF au) er ac) k) = true ↔ au k = x)) : Met l yX5_run wsX5_run ({ frames := 2, cells := 0, slots := 0, locals := 43 }) (va_Pc [.ref hm, .int (iI (x)), .int (iI 0)] (RO D cI cB cZ cO [(hm, .inr (5, [.ref m1, .ref m2, .ref m3, .int (iI ((pa : Nat) : Int)), .int (iI ((pb : Nat) : Int)), .ref m4, .int (iI ((cp : Nat) : Int)), .ref m5, .int (iI ((ty : Nat) : Int)), .ref m6, .int (iI ((nx : Nat) : Int)), .int (iI (fi)), .int (iI (se)), .int (iI ((le : Nat) : Int)), .ref m7, .int (iI (bp)), .ref m8])), (m1, .inl (cI, 516, .inl (rI (sF cn en ac cu co au er ki bs))))])) (QO ((stp qb (bst qb (cnt (visb (omF au) er ac) cn)) (cnt (visb (omF au) er ac) cn) : Nat) : Int)) 0 0 (fun _ => False) := by
  refine startO (cc := cX5_run) (maxL := 8) (ret := (some .int)) (by decide) rfl (Nat.le_of_ble_eq_true rfl) ?_
  intro p e s m below meth c S hr hlocks hE hP ls hl
  have hx := S.1
  have hb := S.2.1
  have hown := S.2.2.2.1
  have hts := S.2.2.2.2
  have hK := hE.1
  have hl : lv_has ls 8 [(0, .ref hm), (1, .int (iI (x))), (2, .int (iI 0))] := hl
  have hcl := cnt_le (visb (omF au) er ac) cn
  refine lv_iload_n hx hb dX5_run_0 rfl (lv_at hl 1 rfl) ?_
  refine r_iconst hx hb dX5_run_1 ?_
  refine r_icmp_eq (tgt := 13) hx hb (by first | omega | (rw [← hre9.1]) | (rw [← hre9.2]) | exact hre9.1 | exact hre9.2) (⟨by decide, by decide⟩) dX5_run_2 (by decide) (fun c_1 => ?_) (fun c_1 => ?_)
  · skip
    refine lv_iload_n hx hb dX5_run_13 rfl (lv_at hl 2 rfl) ?_
    refine r_iconst hx hb dX5_run_14 ?_
    refine r_iconst hx hb dX5_run_15 ?_
    rw [show (0 : Int) = (0) from by first | omega | (rw [← hre9.1]) | (rw [← hre9.2]) | exact hre9.1 | exact hre9.2]
    rw [show (0 : Int) = (0) from by first | omega | (rw [← hre9.1]) | (rw [← hre9.2]) | exact hre9.1 | exact hre9.2]
    rw [show (1 : Int) = (1) from by first | omega | (rw [← hre9.1]) | (rw [← hre9.2]) | exact hre9.1 | exact hre9.2]
    refine callSO (n := 3) (As := [.int (iI (0)), .int (iI (0)), .int (iI (1))]) (rest := []) (wc := []) S (m_in l D cI cB cZ cO 0 0 1 (by first | assumption | (first | omega | (rw [← hre9.1]) | (rw [← hre9.2]) | exact hre9.1 | exact hre9.2)) (by first | assumption | (first | omega | (rw [← hre9.1]) | (rw [← hre9.2]) | exact hre9.1 | exact hre9.2)) (by first | assumption | (first | omega | (rw [← hre9.1]) | (rw [← hre9.2]) | exact hre9.1 | exact hre9.2))) gX5_run_X5_in rfl ⟨rfl, rfl⟩ (by decide +kernel) ⟨Nat.le_of_ble_eq_true rfl, Nat.le_of_ble_eq_true rfl⟩ hE hP [] rfl rfl hl.1 rfl (Nat.le_of_ble_eq_true rfl) dX5_run_16 ⟨Nat.le_of_ble_eq_true rfl, Nat.le_of_ble_eq_true rfl⟩ ?_
    refine r_ifb_ne (tgt := 24) hx hb dX5_run_19 (by decide) (fun c_2 => ?_) (fun c_2 => ?_)
    · skip
      refine r_iconst hx hb dX5_run_24 ?_
      refine lv_istore_n (lv' := [(3, .int (iI 0)), (0, .ref hm), (1, .int (iI (x))), (2, .int (iI 0))]) hx hb dX5_run_25 rfl hl (by decide) rfl (fun ls hl => ?_)
      refine r_bipush hx hb dX5_run_26 (by decide) ?_
      refine lv_istore (lv' := [(4, .int (iI (-9))), (3, .int (iI 0)), (0, .ref hm), (1, .int (iI (x))), (2, .int (iI 0))]) hx hb dX5_run_28 hl (by decide) rfl (fun ls hl => ?_)
      refine r_iconst hx hb dX5_run_30 ?_
      refine lv_istore (lv' := [(5, .int (iI 0)), (4, .int (iI (-9))), (3, .int (iI 0)), (0, .ref hm), (1, .int (iI (x))), (2, .int (iI 0))]) hx hb dX5_run_31 hl (by decide) rfl (fun ls hl => ?_)
      refine r_iconst hx hb dX5_run_33 ?_
      refine lv_istore (lv' := [(6, .int (iI 0)), (5, .int (iI 0)), (4, .int (iI (-9))), (3, .int (iI 0)), (0, .ref hm), (1, .int (iI (x))), (2, .int (iI 0))]) hx hb dX5_run_34 hl (by decide) rfl (fun ls hl => ?_)
      refine r_iconst hx hb dX5_run_36 ?_
      refine lv_istore (lv' := [(7, .int (iI 0)), (6, .int (iI 0)), (5, .int (iI 0)), (4, .int (iI (-9))), (3, .int (iI 0)), (0, .ref hm), (1, .int (iI (x))), (2, .int (iI 0))]) hx hb dX5_run_37 hl (by decide) rfl (fun ls hl => ?_)
      have loop_39 : ∀ (n_39 : Nat) (k : Nat) (n9 : Nat) (best : Nat) (fst9 : Int), (cn - k) < n_39 → (k ≤ cn) → (RI qb (cnt (visb (omF au) er ac) k) n9 best fst9) → ∀ (ls : Array Slot), lv_has ls 8 [(0, .ref hm), (1, .int (iI (x))), (2, .int (iI 0)), (3, .int (iI ((best : Nat) : Int))), (4, .int (iI (fst9))), (5, .int (iI ((n9 : Nat) : Int))), (6, .int (iI ((cnt (visb (omF au) er ac) k : Nat) : Int))), (7, .int (iI ((k : Nat) : Int)))] → W p l e ({ frames := 2, cells := 0, slots := 0, locals := 43 }) s m ([.ref hm, .int (iI (x)), .int (iI 0)] : List Value).toArray below meth c s.heap [] 0 0 (MQ below (QO ((stp qb (bst qb (cnt (visb (omF au) er ac) cn)) (cnt (visb (omF au) er ac) cn) : Nat) : Int)) ([.ref hm, .int (iI (x)), .int (iI 0)] : List Value).toArray s 0 0 (fun _ => False)) (F0 m 39 ls []) := by
        intro n_39
        induction n_39 with
        | zero => intro k n9 best fst9 h_meas; exact absurd h_meas (Nat.not_lt_zero _)
        | succ n_39 ih_39 =>
          intro k n9 best fst9 h_m39 ik ir ls hl
          have hauk := hau k
          have hck := cnt_le (visb (omF au) er ac) k
          have hn9 := ir.1.1
          have hbl : best ≤ cnt (visb (omF au) er ac) k := by obtain ⟨b, _, _, h3, _, _⟩ := ir.2; have := stp_le qb b (cnt (visb (omF au) er ac) k); omega
          have hqk := hqb k
          refine lv_iload hx hb dX5_run_39 (lv_at hl 7 rfl) ?_
          refine lv_aload_n hx hb dX5_run_41 rfl (lv_at hl 0 rfl) ?_
          refine va_get (D := D) (ci := 5) (v := .ref m1) (C := RX5) (T := TX5) (N := 17) hx hb hts nX5_run_X5 hown hK hP 0 rfl rfl 0 (by decide) (hts _ kX5_run_7) (fun _ h9 => h9) rfl dX5_run_42 ?_
          refine r_iconst hx hb dX5_run_45 ?_
          refine r_ialdV (v := ((cn : Nat) : Int)) hx hb hK hP 1 0 rfl rfl (0) (rfl) (by decide) (by decide) (rfl) dX5_run_46 ?_
          refine r_icmp_ge (tgt := 132) hx hb (by first | omega | (rw [← hre9.1]) | (rw [← hre9.2]) | exact hre9.1 | exact hre9.2) (by first | omega | (rw [← hre9.1]) | (rw [← hre9.2]) | exact hre9.1 | exact hre9.2) dX5_run_47 (by decide) (fun c_3 => ?_) (fun c_3 => ?_)
          · skip
            obtain rfl : cn = k := by omega
            have hre9 := RI_e ir
            refine lv_iload_n hx hb dX5_run_132 rfl (lv_at hl 2 rfl) ?_
            refine r_if_ne (tgt := 140) hx hb (⟨by decide, by decide⟩) dX5_run_133 (by decide) (fun c_4 => ?_) (fun c_4 => ?_)
            · skip
              exact absurd c_4 (by decide)
            · skip
              refine lv_iload_n hx hb dX5_run_136 rfl (lv_at hl 3 rfl) ?_
              refine lv_goto (tgt := 142) hx hb dX5_run_137 (by decide) ?_
              exact r_iretO hx hb hr hlocks (by first | omega | (rw [← hre9.1]) | (rw [← hre9.2]) | exact hre9.1 | exact hre9.2) dX5_run_142
          · skip
            refine lv_aload_n hx hb dX5_run_50 rfl (lv_at hl 0 rfl) ?_
            refine lv_iload hx hb dX5_run_51 (lv_at hl 7 rfl) ?_
            refine lv_aload_n hx hb dX5_run_53 rfl (lv_at hl 0 rfl) ?_
            refine va_get (D := D) (ci := 5) (v := .ref m1) (C := RX5) (T := TX5) (N := 17) hx hb hts nX5_run_X5 hown hK hP 0 rfl rfl 0 (by decide) (hts _ kX5_run_7) (fun _ h9 => h9) rfl dX5_run_54 ?_
            refine r_iconst hx hb dX5_run_57 ?_
            refine r_ialdV (v := ((ac : Nat) : Int)) hx hb hK hP 1 0 rfl rfl (2) (rfl) (by decide) (by decide) (rfl) dX5_run_58 ?_
            refine callVO (n := 2) (As := [.int (iI ((k : Nat) : Int)), .int (iI ((ac : Nat) : Int))]) (rest := []) (wc := [(hm, .inr (5, [.ref m1, .ref m2, .ref m3, .int (iI ((pa : Nat) : Int)), .int (iI ((pb : Nat) : Int)), .ref m4, .int (iI ((cp : Nat) : Int)), .ref m5, .int (iI ((ty : Nat) : Int)), .ref m6, .int (iI ((nx : Nat) : Int)), .int (iI (fi)), .int (iI (se)), .int (iI ((le : Nat) : Int)), .ref m7, .int (iI (bp)), .ref m8])), (m1, .inl (cI, 516, .inl (rI (sF cn en ac cu co au er ki bs))))]) S (m_isVisible l D cI cB cZ cO hm m1 m2 m3 m4 m5 m6 m7 m8 pa pb cp ty nx fi se le bp cn en ac cu co au er ki bs k ac (by first | assumption | (first | omega | (rw [← hre9.1]) | (rw [← hre9.2]) | exact hre9.1 | exact hre9.2)) (by first | assumption | (first | omega | (rw [← hre9.1]) | (rw [← hre9.2]) | exact hre9.1 | exact hre9.2)) (by first | assumption | (first | omega | (rw [← hre9.1]) | (rw [← hre9.2]) | exact hre9.1 | exact hre9.2)) (by first | assumption | (first | omega | (rw [← hre9.1]) | (rw [← hre9.2]) | exact hre9.1 | exact hre9.2))) gX5_run_X5_isVisible rfl ⟨rfl, rfl⟩ (by decide +kernel) ⟨Nat.le_of_ble_eq_true rfl, Nat.le_of_ble_eq_true rfl⟩ hE hP [0, 1] rfl 5 0 rfl rfl rfl hl.1 rfl (Nat.le_of_ble_eq_true rfl) dX5_run_59 ⟨Nat.le_of_ble_eq_true rfl, Nat.le_of_ble_eq_true rfl⟩ ?_
            refine r_ifb_eq (tgt := 126) hx hb dX5_run_62 (by decide) (fun c_5 => ?_) (fun c_5 => ?_)
            · skip
              refine lv_iinc (v := iI ((k + 1 : Nat) : Int)) (lv' := [(7, .int (iI ((k + 1 : Nat) : Int))), (0, .ref hm), (1, .int (iI (x))), (2, .int (iI 0)), (3, .int (iI ((best : Nat) : Int))), (4, .int (iI (fst9))), (5, .int (iI ((n9 : Nat) : Int))), (6, .int (iI ((cnt (visb (omF au) er ac) k : Nat) : Int)))]) hx hb dX5_run_126 hl (k := 7) rfl ((iI_add _ _).trans (ii (rfl))) (by decide) rfl (fun ls hl => ?_)
              refine lv_goto (tgt := 39) hx hb dX5_run_129 (by decide) ?_
              have hl : lv_has ls 8 [(7, .int (iI ((k + 1 : Nat) : Int))), (0, .ref hm), (1, .int (iI (x))), (2, .int (iI 0)), (3, .int (iI ((best : Nat) : Int))), (4, .int (iI (fst9))), (5, .int (iI ((n9 : Nat) : Int))), (6, .int (iI ((cnt (visb (omF au) er ac) (k + 1) : Nat) : Int)))] := lv_chg hl 7 6 rfl (show (((cnt (visb (omF au) er ac) k : Nat) : Int) : Int) = ((cnt (visb (omF au) er ac) (k + 1) : Nat) : Int) from by first | (rw [cnt_vt (by assumption)]) | (rw [cnt_vf (by assumption)])) rfl
              exact ih_39 (k + 1) n9 best fst9 (by first | omega | (rw [← hre9.1]) | (rw [← hre9.2]) | exact hre9.1 | exact hre9.2) (by first | assumption | (first | omega | (rw [← hre9.1]) | (rw [← hre9.2]) | exact hre9.1 | exact hre9.2)) (by first | (rw [cnt_vf (by assumption)]; assumption) | (rw [cnt_vt (by assumption)]; have h9 := hqk (by omega) (by assumption); first | exact RI_f ir (fun z => absurd (h9.mp z) (by omega)) | exact RI_n ir (h9.mpr (by omega)) (by omega) | exact RI_k ir (h9.mpr (by omega)) (by omega)) | (exfalso; omega)) ls (lv_sub hl [1, 2, 3, 4, 5, 6, 7, 0] rfl)
            · skip
              refine lv_aload_n hx hb dX5_run_65 rfl (lv_at hl 0 rfl) ?_
              refine va_get (D := D) (ci := 5) (v := .ref m1) (C := RX5) (T := TX5) (N := 17) hx hb hts nX5_run_X5 hown hK hP 0 rfl rfl 0 (by decide) (hts _ kX5_run_7) (fun _ h9 => h9) rfl dX5_run_66 ?_
              refine r_sipush hx hb dX5_run_69 (by decide) ?_
              refine lv_iload hx hb dX5_run_72 (lv_at hl 7 rfl) ?_
              refine r_iadd (v := ((164 + k : Nat) : Int)) hx hb (rfl) dX5_run_74 ?_
              refine r_ialdV (v := (au k)) hx hb hK hP 1 0 rfl rfl (164 + k) (rfl) (by first | omega | (rw [← hre9.1]) | (rw [← hre9.2]) | exact hre9.1 | exact hre9.2) (by decide) (sF_au (by first | omega | (rw [← hre9.1]) | (rw [← hre9.2]) | exact hre9.1 | exact hre9.2)) dX5_run_75 ?_
              refine lv_iload_n hx hb dX5_run_76 rfl (lv_at hl 1 rfl) ?_
              refine r_icmp_ne (tgt := 87) hx hb (by first | omega | (rw [← hre9.1]) | (rw [← hre9.2]) | exact hre9.1 | exact hre9.2) (by first | omega | (rw [← hre9.1]) | (rw [← hre9.2]) | exact hre9.1 | exact hre9.2) dX5_run_77 (by decide) (fun c_6 => ?_) (fun c_6 => ?_)
              · skip
                refine r_iconst hx hb dX5_run_87 ?_
                refine lv_istore (lv' := [(5, .int (iI 0)), (0, .ref hm), (1, .int (iI (x))), (2, .int (iI 0)), (3, .int (iI ((best : Nat) : Int))), (4, .int (iI (fst9))), (6, .int (iI ((cnt (visb (omF au) er ac) k : Nat) : Int))), (7, .int (iI ((k : Nat) : Int)))]) hx hb dX5_run_88 hl (by decide) rfl (fun ls hl => ?_)
                refine lv_iload hx hb dX5_run_90 (lv_at hl 0 rfl) ?_
                refine lv_iload_n hx hb dX5_run_92 rfl (lv_at hl 4 rfl) ?_
                refine r_icmp_le (tgt := 106) hx hb (⟨by decide, by decide⟩) (by first | omega | (rw [← hre9.1]) | (rw [← hre9.2]) | exact hre9.1 | exact hre9.2) dX5_run_93 (by decide) (fun c_7 => ?_) (fun c_7 => ?_)
                · skip
                  refine lv_iload hx hb dX5_run_106 (lv_at hl 5 rfl) ?_
                  refine lv_istore (lv' := [(4, .int (iI (fst9))), (5, .int (iI 0)), (0, .ref hm), (1, .int (iI (x))), (2, .int (iI 0)), (3, .int (iI ((best : Nat) : Int))), (6, .int (iI ((cnt (visb (omF au) er ac) k : Nat) : Int))), (7, .int (iI ((k : Nat) : Int)))]) hx hb dX5_run_108 hl (by decide) rfl (fun ls hl => ?_)
                  refine lv_iload hx hb dX5_run_110 (lv_at hl 1 rfl) ?_
                  refine lv_iload_n hx hb dX5_run_112 rfl (lv_at hl 5 rfl) ?_
                  refine r_icmp_le (tgt := 121) hx hb (⟨by decide, by decide⟩) (by first | omega | (rw [← hre9.1]) | (rw [← hre9.2]) | exact hre9.1 | exact hre9.2) dX5_run_113 (by decide) (fun c_8 => ?_) (fun c_8 => ?_)
                  · skip
                    refine lv_iload_n hx hb dX5_run_121 rfl (lv_at hl 5 rfl) ?_
                    refine lv_istore_n (lv' := [(3, .int (iI ((best : Nat) : Int))), (4, .int (iI (fst9))), (5, .int (iI 0)), (0, .ref hm), (1, .int (iI (x))), (2, .int (iI 0)), (6, .int (iI ((cnt (visb (omF au) er ac) k : Nat) : Int))), (7, .int (iI ((k : Nat) : Int)))]) hx hb dX5_run_122 rfl hl (by decide) rfl (fun ls hl => ?_)
                    refine lv_iinc (v := iI (((cnt (visb (omF au) er ac) k) + 1 : Nat) : Int)) (lv' := [(6, .int (iI (((cnt (visb (omF au) er ac) k) + 1 : Nat) : Int))), (3, .int (iI ((best : Nat) : Int))), (4, .int (iI (fst9))), (5, .int (iI 0)), (0, .ref hm), (1, .int (iI (x))), (2, .int (iI 0)), (7, .int (iI ((k : Nat) : Int)))]) hx hb dX5_run_123 hl (k := 6) rfl ((iI_add _ _).trans (ii (rfl))) (by decide) rfl (fun ls hl => ?_)
                    refine lv_iinc (v := iI ((k + 1 : Nat) : Int)) (lv' := [(7, .int (iI ((k + 1 : Nat) : Int))), (6, .int (iI (((cnt (visb (omF au) er ac) k) + 1 : Nat) : Int))), (3, .int (iI ((best : Nat) : Int))), (4, .int (iI (fst9))), (5, .int (iI 0)), (0, .ref hm), (1, .int (iI (x))), (2, .int (iI 0))]) hx hb dX5_run_126 hl (k := 7) rfl ((iI_add _ _).trans (ii (rfl))) (by decide) rfl (fun ls hl => ?_)
                    refine lv_goto (tgt := 39) hx hb dX5_run_129 (by decide) ?_
                    have hl : lv_has ls 8 [(7, .int (iI ((k + 1 : Nat) : Int))), (6, .int (iI ((cnt (visb (omF au) er ac) (k + 1) : Nat) : Int))), (3, .int (iI ((best : Nat) : Int))), (4, .int (iI (fst9))), (5, .int (iI 0)), (0, .ref hm), (1, .int (iI (x))), (2, .int (iI 0))] := lv_chg hl 1 6 rfl (show ((((cnt (visb (omF au) er ac) k) + 1 : Nat) : Int) : Int) = ((cnt (visb (omF au) er ac) (k + 1) : Nat) : Int) from by first | (rw [cnt_vt (by assumption)]) | (rw [cnt_vf (by assumption)])) rfl
                    exact ih_39 (k + 1) 0 best fst9 (by first | omega | (rw [← hre9.1]) | (rw [← hre9.2]) | exact hre9.1 | exact hre9.2) (by first | assumption | (first | omega | (rw [← hre9.1]) | (rw [← hre9.2]) | exact hre9.1 | exact hre9.2)) (by first | (rw [cnt_vf (by assumption)]; assumption) | (rw [cnt_vt (by assumption)]; have h9 := hqk (by omega) (by assumption); first | exact RI_f ir (fun z => absurd (h9.mp z) (by omega)) | exact RI_n ir (h9.mpr (by omega)) (by omega) | exact RI_k ir (h9.mpr (by omega)) (by omega)) | (exfalso; omega)) ls (lv_sub hl [5, 6, 7, 2, 3, 4, 1, 0] rfl)
                  · skip
                    refine lv_iload hx hb dX5_run_116 (lv_at hl 1 rfl) ?_
                    refine lv_goto (tgt := 122) hx hb dX5_run_118 (by decide) ?_
                    refine lv_istore_n (lv' := [(3, .int (iI 0)), (4, .int (iI (fst9))), (5, .int (iI 0)), (0, .ref hm), (1, .int (iI (x))), (2, .int (iI 0)), (6, .int (iI ((cnt (visb (omF au) er ac) k : Nat) : Int))), (7, .int (iI ((k : Nat) : Int)))]) hx hb dX5_run_122 rfl hl (by decide) rfl (fun ls hl => ?_)
                    refine lv_iinc (v := iI (((cnt (visb (omF au) er ac) k) + 1 : Nat) : Int)) (lv' := [(6, .int (iI (((cnt (visb (omF au) er ac) k) + 1 : Nat) : Int))), (3, .int (iI 0)), (4, .int (iI (fst9))), (5, .int (iI 0)), (0, .ref hm), (1, .int (iI (x))), (2, .int (iI 0)), (7, .int (iI ((k : Nat) : Int)))]) hx hb dX5_run_123 hl (k := 6) rfl ((iI_add _ _).trans (ii (rfl))) (by decide) rfl (fun ls hl => ?_)
                    refine lv_iinc (v := iI ((k + 1 : Nat) : Int)) (lv' := [(7, .int (iI ((k + 1 : Nat) : Int))), (6, .int (iI (((cnt (visb (omF au) er ac) k) + 1 : Nat) : Int))), (3, .int (iI 0)), (4, .int (iI (fst9))), (5, .int (iI 0)), (0, .ref hm), (1, .int (iI (x))), (2, .int (iI 0))]) hx hb dX5_run_126 hl (k := 7) rfl ((iI_add _ _).trans (ii (rfl))) (by decide) rfl (fun ls hl => ?_)
                    refine lv_goto (tgt := 39) hx hb dX5_run_129 (by decide) ?_
                    have hl : lv_has ls 8 [(7, .int (iI ((k + 1 : Nat) : Int))), (6, .int (iI ((cnt (visb (omF au) er ac) (k + 1) : Nat) : Int))), (3, .int (iI 0)), (4, .int (iI (fst9))), (5, .int (iI 0)), (0, .ref hm), (1, .int (iI (x))), (2, .int (iI 0))] := lv_chg hl 1 6 rfl (show ((((cnt (visb (omF au) er ac) k) + 1 : Nat) : Int) : Int) = ((cnt (visb (omF au) er ac) (k + 1) : Nat) : Int) from by first | (rw [cnt_vt (by assumption)]) | (rw [cnt_vf (by assumption)])) rfl
                    exact ih_39 (k + 1) 0 0 fst9 (by first | omega | (rw [← hre9.1]) | (rw [← hre9.2]) | exact hre9.1 | exact hre9.2) (by first | assumption | (first | omega | (rw [← hre9.1]) | (rw [← hre9.2]) | exact hre9.1 | exact hre9.2)) (by first | (rw [cnt_vf (by assumption)]; assumption) | (rw [cnt_vt (by assumption)]; have h9 := hqk (by omega) (by assumption); first | exact RI_f ir (fun z => absurd (h9.mp z) (by omega)) | exact RI_n ir (h9.mpr (by omega)) (by omega) | exact RI_k ir (h9.mpr (by omega)) (by omega)) | (exfalso; omega)) ls (lv_sub hl [5, 6, 7, 2, 3, 4, 1, 0] rfl)
                · skip
                  refine lv_iload hx hb dX5_run_96 (lv_at hl 6 rfl) ?_
                  refine lv_iload hx hb dX5_run_98 (lv_at hl 0 rfl) ?_
                  refine r_isub (v := (((cnt (visb (omF au) er ac) k : Nat) : Int) - 0)) hx hb (rfl) dX5_run_100 ?_
                  refine r_iconst hx hb dX5_run_101 ?_
                  refine r_iadd (v := ((((cnt (visb (omF au) er ac) k : Nat) : Int) - 0) + 1)) hx hb (rfl) dX5_run_102 ?_
                  refine lv_goto (tgt := 108) hx hb dX5_run_103 (by decide) ?_
                  refine lv_istore (lv' := [(4, .int (iI ((((cnt (visb (omF au) er ac) k : Nat) : Int) - 0) + 1))), (5, .int (iI 0)), (0, .ref hm), (1, .int (iI (x))), (2, .int (iI 0)), (3, .int (iI ((best : Nat) : Int))), (6, .int (iI ((cnt (visb (omF au) er ac) k : Nat) : Int))), (7, .int (iI ((k : Nat) : Int)))]) hx hb dX5_run_108 hl (by decide) rfl (fun ls hl => ?_)
                  refine lv_iload hx hb dX5_run_110 (lv_at hl 1 rfl) ?_
                  refine lv_iload_n hx hb dX5_run_112 rfl (lv_at hl 5 rfl) ?_
                  refine r_icmp_le (tgt := 121) hx hb (⟨by decide, by decide⟩) (by first | omega | (rw [← hre9.1]) | (rw [← hre9.2]) | exact hre9.1 | exact hre9.2) dX5_run_113 (by decide) (fun c_9 => ?_) (fun c_9 => ?_)
                  · skip
                    refine lv_iload_n hx hb dX5_run_121 rfl (lv_at hl 5 rfl) ?_
                    refine lv_istore_n (lv' := [(3, .int (iI ((best : Nat) : Int))), (4, .int (iI ((((cnt (visb (omF au) er ac) k : Nat) : Int) - 0) + 1))), (5, .int (iI 0)), (0, .ref hm), (1, .int (iI (x))), (2, .int (iI 0)), (6, .int (iI ((cnt (visb (omF au) er ac) k : Nat) : Int))), (7, .int (iI ((k : Nat) : Int)))]) hx hb dX5_run_122 rfl hl (by decide) rfl (fun ls hl => ?_)
                    refine lv_iinc (v := iI (((cnt (visb (omF au) er ac) k) + 1 : Nat) : Int)) (lv' := [(6, .int (iI (((cnt (visb (omF au) er ac) k) + 1 : Nat) : Int))), (3, .int (iI ((best : Nat) : Int))), (4, .int (iI ((((cnt (visb (omF au) er ac) k : Nat) : Int) - 0) + 1))), (5, .int (iI 0)), (0, .ref hm), (1, .int (iI (x))), (2, .int (iI 0)), (7, .int (iI ((k : Nat) : Int)))]) hx hb dX5_run_123 hl (k := 6) rfl ((iI_add _ _).trans (ii (rfl))) (by decide) rfl (fun ls hl => ?_)
                    refine lv_iinc (v := iI ((k + 1 : Nat) : Int)) (lv' := [(7, .int (iI ((k + 1 : Nat) : Int))), (6, .int (iI (((cnt (visb (omF au) er ac) k) + 1 : Nat) : Int))), (3, .int (iI ((best : Nat) : Int))), (4, .int (iI ((((cnt (visb (omF au) er ac) k : Nat) : Int) - 0) + 1))), (5, .int (iI 0)), (0, .ref hm), (1, .int (iI (x))), (2, .int (iI 0))]) hx hb dX5_run_126 hl (k := 7) rfl ((iI_add _ _).trans (ii (rfl))) (by decide) rfl (fun ls hl => ?_)
                    refine lv_goto (tgt := 39) hx hb dX5_run_129 (by decide) ?_
                    have hl : lv_has ls 8 [(7, .int (iI ((k + 1 : Nat) : Int))), (6, .int (iI ((cnt (visb (omF au) er ac) (k + 1) : Nat) : Int))), (3, .int (iI ((best : Nat) : Int))), (4, .int (iI ((((cnt (visb (omF au) er ac) k : Nat) : Int) - 0) + 1))), (5, .int (iI 0)), (0, .ref hm), (1, .int (iI (x))), (2, .int (iI 0))] := lv_chg hl 1 6 rfl (show ((((cnt (visb (omF au) er ac) k) + 1 : Nat) : Int) : Int) = ((cnt (visb (omF au) er ac) (k + 1) : Nat) : Int) from by first | (rw [cnt_vt (by assumption)]) | (rw [cnt_vf (by assumption)])) rfl
                    exact ih_39 (k + 1) 0 best ((((cnt (visb (omF au) er ac) k : Nat) : Int) - 0) + 1) (by first | omega | (rw [← hre9.1]) | (rw [← hre9.2]) | exact hre9.1 | exact hre9.2) (by first | assumption | (first | omega | (rw [← hre9.1]) | (rw [← hre9.2]) | exact hre9.1 | exact hre9.2)) (by first | (rw [cnt_vf (by assumption)]; assumption) | (rw [cnt_vt (by assumption)]; have h9 := hqk (by omega) (by assumption); first | exact RI_f ir (fun z => absurd (h9.mp z) (by omega)) | exact RI_n ir (h9.mpr (by omega)) (by omega) | exact RI_k ir (h9.mpr (by omega)) (by omega)) | (exfalso; omega)) ls (lv_sub hl [5, 6, 7, 2, 3, 4, 1, 0] rfl)
                  · skip
                    refine lv_iload hx hb dX5_run_116 (lv_at hl 1 rfl) ?_
                    refine lv_goto (tgt := 122) hx hb dX5_run_118 (by decide) ?_
                    refine lv_istore_n (lv' := [(3, .int (iI 0)), (4, .int (iI ((((cnt (visb (omF au) er ac) k : Nat) : Int) - 0) + 1))), (5, .int (iI 0)), (0, .ref hm), (1, .int (iI (x))), (2, .int (iI 0)), (6, .int (iI ((cnt (visb (omF au) er ac) k : Nat) : Int))), (7, .int (iI ((k : Nat) : Int)))]) hx hb dX5_run_122 rfl hl (by decide) rfl (fun ls hl => ?_)
                    refine lv_iinc (v := iI (((cnt (visb (omF au) er ac) k) + 1 : Nat) : Int)) (lv' := [(6, .int (iI (((cnt (visb (omF au) er ac) k) + 1 : Nat) : Int))), (3, .int (iI 0)), (4, .int (iI ((((cnt (visb (omF au) er ac) k : Nat) : Int) - 0) + 1))), (5, .int (iI 0)), (0, .ref hm), (1, .int (iI (x))), (2, .int (iI 0)), (7, .int (iI ((k : Nat) : Int)))]) hx hb dX5_run_123 hl (k := 6) rfl ((iI_add _ _).trans (ii (rfl))) (by decide) rfl (fun ls hl => ?_)
                    refine lv_iinc (v := iI ((k + 1 : Nat) : Int)) (lv' := [(7, .int (iI ((k + 1 : Nat) : Int))), (6, .int (iI (((cnt (visb (omF au) er ac) k) + 1 : Nat) : Int))), (3, .int (iI 0)), (4, .int (iI ((((cnt (visb (omF au) er ac) k : Nat) : Int) - 0) + 1))), (5, .int (iI 0)), (0, .ref hm), (1, .int (iI (x))), (2, .int (iI 0))]) hx hb dX5_run_126 hl (k := 7) rfl ((iI_add _ _).trans (ii (rfl))) (by decide) rfl (fun ls hl => ?_)
                    refine lv_goto (tgt := 39) hx hb dX5_run_129 (by decide) ?_
                    have hl : lv_has ls 8 [(7, .int (iI ((k + 1 : Nat) : Int))), (6, .int (iI ((cnt (visb (omF au) er ac) (k + 1) : Nat) : Int))), (3, .int (iI 0)), (4, .int (iI ((((cnt (visb (omF au) er ac) k : Nat) : Int) - 0) + 1))), (5, .int (iI 0)), (0, .ref hm), (1, .int (iI (x))), (2, .int (iI 0))] := lv_chg hl 1 6 rfl (show ((((cnt (visb (omF au) er ac) k) + 1 : Nat) : Int) : Int) = ((cnt (visb (omF au) er ac) (k + 1) : Nat) : Int) from by first | (rw [cnt_vt (by assumption)]) | (rw [cnt_vf (by assumption)])) rfl
                    exact ih_39 (k + 1) 0 0 ((((cnt (visb (omF au) er ac) k : Nat) : Int) - 0) + 1) (by first | omega | (rw [← hre9.1]) | (rw [← hre9.2]) | exact hre9.1 | exact hre9.2) (by first | assumption | (first | omega | (rw [← hre9.1]) | (rw [← hre9.2]) | exact hre9.1 | exact hre9.2)) (by first | (rw [cnt_vf (by assumption)]; assumption) | (rw [cnt_vt (by assumption)]; have h9 := hqk (by omega) (by assumption); first | exact RI_f ir (fun z => absurd (h9.mp z) (by omega)) | exact RI_n ir (h9.mpr (by omega)) (by omega) | exact RI_k ir (h9.mpr (by omega)) (by omega)) | (exfalso; omega)) ls (lv_sub hl [5, 6, 7, 2, 3, 4, 1, 0] rfl)
              · skip
                refine lv_iload hx hb dX5_run_80 (lv_at hl 5 rfl) ?_
                refine r_iconst hx hb dX5_run_82 ?_
                refine r_iadd (v := ((n9 + 1 : Nat) : Int)) hx hb (rfl) dX5_run_83 ?_
                refine lv_goto (tgt := 88) hx hb dX5_run_84 (by decide) ?_
                refine lv_istore (lv' := [(5, .int (iI ((n9 + 1 : Nat) : Int))), (0, .ref hm), (1, .int (iI (x))), (2, .int (iI 0)), (3, .int (iI ((best : Nat) : Int))), (4, .int (iI (fst9))), (6, .int (iI ((cnt (visb (omF au) er ac) k : Nat) : Int))), (7, .int (iI ((k : Nat) : Int)))]) hx hb dX5_run_88 hl (by decide) rfl (fun ls hl => ?_)
                refine lv_iload hx hb dX5_run_90 (lv_at hl 0 rfl) ?_
                refine lv_iload_n hx hb dX5_run_92 rfl (lv_at hl 4 rfl) ?_
                refine r_icmp_le (tgt := 106) hx hb (by first | omega | (rw [← hre9.1]) | (rw [← hre9.2]) | exact hre9.1 | exact hre9.2) (by first | omega | (rw [← hre9.1]) | (rw [← hre9.2]) | exact hre9.1 | exact hre9.2) dX5_run_93 (by decide) (fun c_10 => ?_) (fun c_10 => ?_)
                · skip
                  refine lv_iload hx hb dX5_run_106 (lv_at hl 5 rfl) ?_
                  refine lv_istore (lv' := [(4, .int (iI (fst9))), (5, .int (iI ((n9 + 1 : Nat) : Int))), (0, .ref hm), (1, .int (iI (x))), (2, .int (iI 0)), (3, .int (iI ((best : Nat) : Int))), (6, .int (iI ((cnt (visb (omF au) er ac) k : Nat) : Int))), (7, .int (iI ((k : Nat) : Int)))]) hx hb dX5_run_108 hl (by decide) rfl (fun ls hl => ?_)
                  refine lv_iload hx hb dX5_run_110 (lv_at hl 1 rfl) ?_
                  refine lv_iload_n hx hb dX5_run_112 rfl (lv_at hl 5 rfl) ?_
                  refine r_icmp_le (tgt := 121) hx hb (by first | omega | (rw [← hre9.1]) | (rw [← hre9.2]) | exact hre9.1 | exact hre9.2) (by first | omega | (rw [← hre9.1]) | (rw [← hre9.2]) | exact hre9.1 | exact hre9.2) dX5_run_113 (by decide) (fun c_11 => ?_) (fun c_11 => ?_)
                  · skip
                    refine lv_iload_n hx hb dX5_run_121 rfl (lv_at hl 5 rfl) ?_
                    refine lv_istore_n (lv' := [(3, .int (iI ((best : Nat) : Int))), (4, .int (iI (fst9))), (5, .int (iI ((n9 + 1 : Nat) : Int))), (0, .ref hm), (1, .int (iI (x))), (2, .int (iI 0)), (6, .int (iI ((cnt (visb (omF au) er ac) k : Nat) : Int))), (7, .int (iI ((k : Nat) : Int)))]) hx hb dX5_run_122 rfl hl (by decide) rfl (fun ls hl => ?_)
                    refine lv_iinc (v := iI (((cnt (visb (omF au) er ac) k) + 1 : Nat) : Int)) (lv' := [(6, .int (iI (((cnt (visb (omF au) er ac) k) + 1 : Nat) : Int))), (3, .int (iI ((best : Nat) : Int))), (4, .int (iI (fst9))), (5, .int (iI ((n9 + 1 : Nat) : Int))), (0, .ref hm), (1, .int (iI (x))), (2, .int (iI 0)), (7, .int (iI ((k : Nat) : Int)))]) hx hb dX5_run_123 hl (k := 6) rfl ((iI_add _ _).trans (ii (rfl))) (by decide) rfl (fun ls hl => ?_)
                    refine lv_iinc (v := iI ((k + 1 : Nat) : Int)) (lv' := [(7, .int (iI ((k + 1 : Nat) : Int))), (6, .int (iI (((cnt (visb (omF au) er ac) k) + 1 : Nat) : Int))), (3, .int (iI ((best : Nat) : Int))), (4, .int (iI (fst9))), (5, .int (iI ((n9 + 1 : Nat) : Int))), (0, .ref hm), (1, .int (iI (x))), (2, .int (iI 0))]) hx hb dX5_run_126 hl (k := 7) rfl ((iI_add _ _).trans (ii (rfl))) (by decide) rfl (fun ls hl => ?_)
                    refine lv_goto (tgt := 39) hx hb dX5_run_129 (by decide) ?_
                    have hl : lv_has ls 8 [(7, .int (iI ((k + 1 : Nat) : Int))), (6, .int (iI ((cnt (visb (omF au) er ac) (k + 1) : Nat) : Int))), (3, .int (iI ((best : Nat) : Int))), (4, .int (iI (fst9))), (5, .int (iI ((n9 + 1 : Nat) : Int))), (0, .ref hm), (1, .int (iI (x))), (2, .int (iI 0))] := lv_chg hl 1 6 rfl (show ((((cnt (visb (omF au) er ac) k) + 1 : Nat) : Int) : Int) = ((cnt (visb (omF au) er ac) (k + 1) : Nat) : Int) from by first | (rw [cnt_vt (by assumption)]) | (rw [cnt_vf (by assumption)])) rfl
                    exact ih_39 (k + 1) (n9 + 1) best fst9 (by first | omega | (rw [← hre9.1]) | (rw [← hre9.2]) | exact hre9.1 | exact hre9.2) (by first | assumption | (first | omega | (rw [← hre9.1]) | (rw [← hre9.2]) | exact hre9.1 | exact hre9.2)) (by first | (rw [cnt_vf (by assumption)]; assumption) | (rw [cnt_vt (by assumption)]; have h9 := hqk (by omega) (by assumption); first | exact RI_f ir (fun z => absurd (h9.mp z) (by omega)) | exact RI_n ir (h9.mpr (by omega)) (by omega) | exact RI_k ir (h9.mpr (by omega)) (by omega)) | (exfalso; omega)) ls (lv_sub hl [5, 6, 7, 2, 3, 4, 1, 0] rfl)
                  · skip
                    refine lv_iload hx hb dX5_run_116 (lv_at hl 1 rfl) ?_
                    refine lv_goto (tgt := 122) hx hb dX5_run_118 (by decide) ?_
                    refine lv_istore_n (lv' := [(3, .int (iI ((n9 + 1 : Nat) : Int))), (4, .int (iI (fst9))), (5, .int (iI ((n9 + 1 : Nat) : Int))), (0, .ref hm), (1, .int (iI (x))), (2, .int (iI 0)), (6, .int (iI ((cnt (visb (omF au) er ac) k : Nat) : Int))), (7, .int (iI ((k : Nat) : Int)))]) hx hb dX5_run_122 rfl hl (by decide) rfl (fun ls hl => ?_)
                    refine lv_iinc (v := iI (((cnt (visb (omF au) er ac) k) + 1 : Nat) : Int)) (lv' := [(6, .int (iI (((cnt (visb (omF au) er ac) k) + 1 : Nat) : Int))), (3, .int (iI ((n9 + 1 : Nat) : Int))), (4, .int (iI (fst9))), (5, .int (iI ((n9 + 1 : Nat) : Int))), (0, .ref hm), (1, .int (iI (x))), (2, .int (iI 0)), (7, .int (iI ((k : Nat) : Int)))]) hx hb dX5_run_123 hl (k := 6) rfl ((iI_add _ _).trans (ii (rfl))) (by decide) rfl (fun ls hl => ?_)
                    refine lv_iinc (v := iI ((k + 1 : Nat) : Int)) (lv' := [(7, .int (iI ((k + 1 : Nat) : Int))), (6, .int (iI (((cnt (visb (omF au) er ac) k) + 1 : Nat) : Int))), (3, .int (iI ((n9 + 1 : Nat) : Int))), (4, .int (iI (fst9))), (5, .int (iI ((n9 + 1 : Nat) : Int))), (0, .ref hm), (1, .int (iI (x))), (2, .int (iI 0))]) hx hb dX5_run_126 hl (k := 7) rfl ((iI_add _ _).trans (ii (rfl))) (by decide) rfl (fun ls hl => ?_)
                    refine lv_goto (tgt := 39) hx hb dX5_run_129 (by decide) ?_
                    have hl : lv_has ls 8 [(7, .int (iI ((k + 1 : Nat) : Int))), (6, .int (iI ((cnt (visb (omF au) er ac) (k + 1) : Nat) : Int))), (3, .int (iI ((n9 + 1 : Nat) : Int))), (4, .int (iI (fst9))), (5, .int (iI ((n9 + 1 : Nat) : Int))), (0, .ref hm), (1, .int (iI (x))), (2, .int (iI 0))] := lv_chg hl 1 6 rfl (show ((((cnt (visb (omF au) er ac) k) + 1 : Nat) : Int) : Int) = ((cnt (visb (omF au) er ac) (k + 1) : Nat) : Int) from by first | (rw [cnt_vt (by assumption)]) | (rw [cnt_vf (by assumption)])) rfl
                    exact ih_39 (k + 1) (n9 + 1) (n9 + 1) fst9 (by first | omega | (rw [← hre9.1]) | (rw [← hre9.2]) | exact hre9.1 | exact hre9.2) (by first | assumption | (first | omega | (rw [← hre9.1]) | (rw [← hre9.2]) | exact hre9.1 | exact hre9.2)) (by first | (rw [cnt_vf (by assumption)]; assumption) | (rw [cnt_vt (by assumption)]; have h9 := hqk (by omega) (by assumption); first | exact RI_f ir (fun z => absurd (h9.mp z) (by omega)) | exact RI_n ir (h9.mpr (by omega)) (by omega) | exact RI_k ir (h9.mpr (by omega)) (by omega)) | (exfalso; omega)) ls (lv_sub hl [5, 6, 7, 2, 3, 4, 1, 0] rfl)
                · skip
                  refine lv_iload hx hb dX5_run_96 (lv_at hl 6 rfl) ?_
                  refine lv_iload hx hb dX5_run_98 (lv_at hl 0 rfl) ?_
                  refine r_isub (v := (((cnt (visb (omF au) er ac) k : Nat) : Int) - ((n9 + 1 : Nat) : Int))) hx hb (rfl) dX5_run_100 ?_
                  refine r_iconst hx hb dX5_run_101 ?_
                  refine r_iadd (v := ((((cnt (visb (omF au) er ac) k : Nat) : Int) - ((n9 + 1 : Nat) : Int)) + 1)) hx hb (rfl) dX5_run_102 ?_
                  refine lv_goto (tgt := 108) hx hb dX5_run_103 (by decide) ?_
                  refine lv_istore (lv' := [(4, .int (iI ((((cnt (visb (omF au) er ac) k : Nat) : Int) - ((n9 + 1 : Nat) : Int)) + 1))), (5, .int (iI ((n9 + 1 : Nat) : Int))), (0, .ref hm), (1, .int (iI (x))), (2, .int (iI 0)), (3, .int (iI ((best : Nat) : Int))), (6, .int (iI ((cnt (visb (omF au) er ac) k : Nat) : Int))), (7, .int (iI ((k : Nat) : Int)))]) hx hb dX5_run_108 hl (by decide) rfl (fun ls hl => ?_)
                  refine lv_iload hx hb dX5_run_110 (lv_at hl 1 rfl) ?_
                  refine lv_iload_n hx hb dX5_run_112 rfl (lv_at hl 5 rfl) ?_
                  refine r_icmp_le (tgt := 121) hx hb (by first | omega | (rw [← hre9.1]) | (rw [← hre9.2]) | exact hre9.1 | exact hre9.2) (by first | omega | (rw [← hre9.1]) | (rw [← hre9.2]) | exact hre9.1 | exact hre9.2) dX5_run_113 (by decide) (fun c_12 => ?_) (fun c_12 => ?_)
                  · skip
                    refine lv_iload_n hx hb dX5_run_121 rfl (lv_at hl 5 rfl) ?_
                    refine lv_istore_n (lv' := [(3, .int (iI ((best : Nat) : Int))), (4, .int (iI ((((cnt (visb (omF au) er ac) k : Nat) : Int) - ((n9 + 1 : Nat) : Int)) + 1))), (5, .int (iI ((n9 + 1 : Nat) : Int))), (0, .ref hm), (1, .int (iI (x))), (2, .int (iI 0)), (6, .int (iI ((cnt (visb (omF au) er ac) k : Nat) : Int))), (7, .int (iI ((k : Nat) : Int)))]) hx hb dX5_run_122 rfl hl (by decide) rfl (fun ls hl => ?_)
                    refine lv_iinc (v := iI (((cnt (visb (omF au) er ac) k) + 1 : Nat) : Int)) (lv' := [(6, .int (iI (((cnt (visb (omF au) er ac) k) + 1 : Nat) : Int))), (3, .int (iI ((best : Nat) : Int))), (4, .int (iI ((((cnt (visb (omF au) er ac) k : Nat) : Int) - ((n9 + 1 : Nat) : Int)) + 1))), (5, .int (iI ((n9 + 1 : Nat) : Int))), (0, .ref hm), (1, .int (iI (x))), (2, .int (iI 0)), (7, .int (iI ((k : Nat) : Int)))]) hx hb dX5_run_123 hl (k := 6) rfl ((iI_add _ _).trans (ii (rfl))) (by decide) rfl (fun ls hl => ?_)
                    refine lv_iinc (v := iI ((k + 1 : Nat) : Int)) (lv' := [(7, .int (iI ((k + 1 : Nat) : Int))), (6, .int (iI (((cnt (visb (omF au) er ac) k) + 1 : Nat) : Int))), (3, .int (iI ((best : Nat) : Int))), (4, .int (iI ((((cnt (visb (omF au) er ac) k : Nat) : Int) - ((n9 + 1 : Nat) : Int)) + 1))), (5, .int (iI ((n9 + 1 : Nat) : Int))), (0, .ref hm), (1, .int (iI (x))), (2, .int (iI 0))]) hx hb dX5_run_126 hl (k := 7) rfl ((iI_add _ _).trans (ii (rfl))) (by decide) rfl (fun ls hl => ?_)
                    refine lv_goto (tgt := 39) hx hb dX5_run_129 (by decide) ?_
                    have hl : lv_has ls 8 [(7, .int (iI ((k + 1 : Nat) : Int))), (6, .int (iI ((cnt (visb (omF au) er ac) (k + 1) : Nat) : Int))), (3, .int (iI ((best : Nat) : Int))), (4, .int (iI ((((cnt (visb (omF au) er ac) k : Nat) : Int) - ((n9 + 1 : Nat) : Int)) + 1))), (5, .int (iI ((n9 + 1 : Nat) : Int))), (0, .ref hm), (1, .int (iI (x))), (2, .int (iI 0))] := lv_chg hl 1 6 rfl (show ((((cnt (visb (omF au) er ac) k) + 1 : Nat) : Int) : Int) = ((cnt (visb (omF au) er ac) (k + 1) : Nat) : Int) from by first | (rw [cnt_vt (by assumption)]) | (rw [cnt_vf (by assumption)])) rfl
                    exact ih_39 (k + 1) (n9 + 1) best ((((cnt (visb (omF au) er ac) k : Nat) : Int) - ((n9 + 1 : Nat) : Int)) + 1) (by first | omega | (rw [← hre9.1]) | (rw [← hre9.2]) | exact hre9.1 | exact hre9.2) (by first | assumption | (first | omega | (rw [← hre9.1]) | (rw [← hre9.2]) | exact hre9.1 | exact hre9.2)) (by first | (rw [cnt_vf (by assumption)]; assumption) | (rw [cnt_vt (by assumption)]; have h9 := hqk (by omega) (by assumption); first | exact RI_f ir (fun z => absurd (h9.mp z) (by omega)) | exact RI_n ir (h9.mpr (by omega)) (by omega) | exact RI_k ir (h9.mpr (by omega)) (by omega)) | (exfalso; omega)) ls (lv_sub hl [5, 6, 7, 2, 3, 4, 1, 0] rfl)
                  · skip
                    refine lv_iload hx hb dX5_run_116 (lv_at hl 1 rfl) ?_
                    refine lv_goto (tgt := 122) hx hb dX5_run_118 (by decide) ?_
                    refine lv_istore_n (lv' := [(3, .int (iI ((n9 + 1 : Nat) : Int))), (4, .int (iI ((((cnt (visb (omF au) er ac) k : Nat) : Int) - ((n9 + 1 : Nat) : Int)) + 1))), (5, .int (iI ((n9 + 1 : Nat) : Int))), (0, .ref hm), (1, .int (iI (x))), (2, .int (iI 0)), (6, .int (iI ((cnt (visb (omF au) er ac) k : Nat) : Int))), (7, .int (iI ((k : Nat) : Int)))]) hx hb dX5_run_122 rfl hl (by decide) rfl (fun ls hl => ?_)
                    refine lv_iinc (v := iI (((cnt (visb (omF au) er ac) k) + 1 : Nat) : Int)) (lv' := [(6, .int (iI (((cnt (visb (omF au) er ac) k) + 1 : Nat) : Int))), (3, .int (iI ((n9 + 1 : Nat) : Int))), (4, .int (iI ((((cnt (visb (omF au) er ac) k : Nat) : Int) - ((n9 + 1 : Nat) : Int)) + 1))), (5, .int (iI ((n9 + 1 : Nat) : Int))), (0, .ref hm), (1, .int (iI (x))), (2, .int (iI 0)), (7, .int (iI ((k : Nat) : Int)))]) hx hb dX5_run_123 hl (k := 6) rfl ((iI_add _ _).trans (ii (rfl))) (by decide) rfl (fun ls hl => ?_)
                    refine lv_iinc (v := iI ((k + 1 : Nat) : Int)) (lv' := [(7, .int (iI ((k + 1 : Nat) : Int))), (6, .int (iI (((cnt (visb (omF au) er ac) k) + 1 : Nat) : Int))), (3, .int (iI ((n9 + 1 : Nat) : Int))), (4, .int (iI ((((cnt (visb (omF au) er ac) k : Nat) : Int) - ((n9 + 1 : Nat) : Int)) + 1))), (5, .int (iI ((n9 + 1 : Nat) : Int))), (0, .ref hm), (1, .int (iI (x))), (2, .int (iI 0))]) hx hb dX5_run_126 hl (k := 7) rfl ((iI_add _ _).trans (ii (rfl))) (by decide) rfl (fun ls hl => ?_)
                    refine lv_goto (tgt := 39) hx hb dX5_run_129 (by decide) ?_
                    have hl : lv_has ls 8 [(7, .int (iI ((k + 1 : Nat) : Int))), (6, .int (iI ((cnt (visb (omF au) er ac) (k + 1) : Nat) : Int))), (3, .int (iI ((n9 + 1 : Nat) : Int))), (4, .int (iI ((((cnt (visb (omF au) er ac) k : Nat) : Int) - ((n9 + 1 : Nat) : Int)) + 1))), (5, .int (iI ((n9 + 1 : Nat) : Int))), (0, .ref hm), (1, .int (iI (x))), (2, .int (iI 0))] := lv_chg hl 1 6 rfl (show ((((cnt (visb (omF au) er ac) k) + 1 : Nat) : Int) : Int) = ((cnt (visb (omF au) er ac) (k + 1) : Nat) : Int) from by first | (rw [cnt_vt (by assumption)]) | (rw [cnt_vf (by assumption)])) rfl
                    exact ih_39 (k + 1) (n9 + 1) (n9 + 1) ((((cnt (visb (omF au) er ac) k : Nat) : Int) - ((n9 + 1 : Nat) : Int)) + 1) (by first | omega | (rw [← hre9.1]) | (rw [← hre9.2]) | exact hre9.1 | exact hre9.2) (by first | assumption | (first | omega | (rw [← hre9.1]) | (rw [← hre9.2]) | exact hre9.1 | exact hre9.2)) (by first | (rw [cnt_vf (by assumption)]; assumption) | (rw [cnt_vt (by assumption)]; have h9 := hqk (by omega) (by assumption); first | exact RI_f ir (fun z => absurd (h9.mp z) (by omega)) | exact RI_n ir (h9.mpr (by omega)) (by omega) | exact RI_k ir (h9.mpr (by omega)) (by omega)) | (exfalso; omega)) ls (lv_sub hl [5, 6, 7, 2, 3, 4, 1, 0] rfl)
      have hl : lv_has ls 8 [(7, .int (iI 0)), (6, .int (iI ((cnt (visb (omF au) er ac) 0 : Nat) : Int))), (5, .int (iI 0)), (4, .int (iI (-9))), (3, .int (iI 0)), (0, .ref hm), (1, .int (iI (x))), (2, .int (iI 0))] := lv_chg hl 1 6 rfl (show (0 : Int) = ((cnt (visb (omF au) er ac) 0 : Nat) : Int) from by rfl) rfl
      exact loop_39 ((cn - 0) + 1) 0 0 0 (-9) (by first | omega | (rw [← hre9.1]) | (rw [← hre9.2]) | exact hre9.1 | exact hre9.2) (by first | assumption | (first | omega | (rw [← hre9.1]) | (rw [← hre9.2]) | exact hre9.1 | exact hre9.2)) (by exact RI_0) ls (lv_sub hl [5, 6, 7, 4, 3, 2, 1, 0] rfl)
    · skip
      exfalso; omega
  · skip
    refine lv_aload_n hx hb dX5_run_5 rfl (lv_at hl 0 rfl) ?_
    refine lv_iload_n hx hb dX5_run_6 rfl (lv_at hl 1 rfl) ?_
    refine callVO (n := 1) (As := [.int (iI (x))]) (rest := []) (wc := [(hm, .inr (5, [.ref m1, .ref m2, .ref m3, .int (iI ((pa : Nat) : Int)), .int (iI ((pb : Nat) : Int)), .ref m4, .int (iI ((cp : Nat) : Int)), .ref m5, .int (iI ((ty : Nat) : Int)), .ref m6, .int (iI ((nx : Nat) : Int)), .int (iI (fi)), .int (iI (se)), .int (iI ((le : Nat) : Int)), .ref m7, .int (iI (bp)), .ref m8])), (m1, .inl (cI, 516, .inl (rI (sF cn en ac cu co au er ki bs))))]) S (m_isEdit l D cI cB cZ cO hm m1 m2 m3 m4 m5 m6 m7 m8 pa pb cp ty nx fi se le bp cn en ac cu co au er ki bs x (by first | assumption | (first | omega | (rw [← hre9.1]) | (rw [← hre9.2]) | exact hre9.1 | exact hre9.2)) (by first | assumption | (first | omega | (rw [← hre9.1]) | (rw [← hre9.2]) | exact hre9.1 | exact hre9.2))) gX5_run_X5_isEdit rfl ⟨rfl, rfl⟩ (by decide +kernel) ⟨Nat.le_of_ble_eq_true rfl, Nat.le_of_ble_eq_true rfl⟩ hE hP [0, 1] rfl 5 0 rfl rfl rfl hl.1 rfl (Nat.le_of_ble_eq_true rfl) dX5_run_7 ⟨Nat.le_of_ble_eq_true rfl, Nat.le_of_ble_eq_true rfl⟩ ?_
    refine r_ifb_eq (tgt := 22) hx hb dX5_run_10 (by decide) (fun c_13 => ?_) (fun c_13 => ?_)
    · skip
      exfalso; omega
    · skip
      refine lv_iload_n hx hb dX5_run_13 rfl (lv_at hl 2 rfl) ?_
      refine r_iconst hx hb dX5_run_14 ?_
      refine r_iconst hx hb dX5_run_15 ?_
      rw [show (0 : Int) = (0) from by first | omega | (rw [← hre9.1]) | (rw [← hre9.2]) | exact hre9.1 | exact hre9.2]
      rw [show (0 : Int) = (0) from by first | omega | (rw [← hre9.1]) | (rw [← hre9.2]) | exact hre9.1 | exact hre9.2]
      rw [show (1 : Int) = (1) from by first | omega | (rw [← hre9.1]) | (rw [← hre9.2]) | exact hre9.1 | exact hre9.2]
      refine callSO (n := 3) (As := [.int (iI (0)), .int (iI (0)), .int (iI (1))]) (rest := []) (wc := []) S (m_in l D cI cB cZ cO 0 0 1 (by first | assumption | (first | omega | (rw [← hre9.1]) | (rw [← hre9.2]) | exact hre9.1 | exact hre9.2)) (by first | assumption | (first | omega | (rw [← hre9.1]) | (rw [← hre9.2]) | exact hre9.1 | exact hre9.2)) (by first | assumption | (first | omega | (rw [← hre9.1]) | (rw [← hre9.2]) | exact hre9.1 | exact hre9.2))) gX5_run_X5_in rfl ⟨rfl, rfl⟩ (by decide +kernel) ⟨Nat.le_of_ble_eq_true rfl, Nat.le_of_ble_eq_true rfl⟩ hE hP [] rfl rfl hl.1 rfl (Nat.le_of_ble_eq_true rfl) dX5_run_16 ⟨Nat.le_of_ble_eq_true rfl, Nat.le_of_ble_eq_true rfl⟩ ?_
      refine r_ifb_ne (tgt := 24) hx hb dX5_run_19 (by decide) (fun c_14 => ?_) (fun c_14 => ?_)
      · skip
        refine r_iconst hx hb dX5_run_24 ?_
        refine lv_istore_n (lv' := [(3, .int (iI 0)), (0, .ref hm), (1, .int (iI (x))), (2, .int (iI 0))]) hx hb dX5_run_25 rfl hl (by decide) rfl (fun ls hl => ?_)
        refine r_bipush hx hb dX5_run_26 (by decide) ?_
        refine lv_istore (lv' := [(4, .int (iI (-9))), (3, .int (iI 0)), (0, .ref hm), (1, .int (iI (x))), (2, .int (iI 0))]) hx hb dX5_run_28 hl (by decide) rfl (fun ls hl => ?_)
        refine r_iconst hx hb dX5_run_30 ?_
        refine lv_istore (lv' := [(5, .int (iI 0)), (4, .int (iI (-9))), (3, .int (iI 0)), (0, .ref hm), (1, .int (iI (x))), (2, .int (iI 0))]) hx hb dX5_run_31 hl (by decide) rfl (fun ls hl => ?_)
        refine r_iconst hx hb dX5_run_33 ?_
        refine lv_istore (lv' := [(6, .int (iI 0)), (5, .int (iI 0)), (4, .int (iI (-9))), (3, .int (iI 0)), (0, .ref hm), (1, .int (iI (x))), (2, .int (iI 0))]) hx hb dX5_run_34 hl (by decide) rfl (fun ls hl => ?_)
        refine r_iconst hx hb dX5_run_36 ?_
        refine lv_istore (lv' := [(7, .int (iI 0)), (6, .int (iI 0)), (5, .int (iI 0)), (4, .int (iI (-9))), (3, .int (iI 0)), (0, .ref hm), (1, .int (iI (x))), (2, .int (iI 0))]) hx hb dX5_run_37 hl (by decide) rfl (fun ls hl => ?_)
        have loop_39 : ∀ (n_39 : Nat) (k : Nat) (n9 : Nat) (best : Nat) (fst9 : Int), (cn - k) < n_39 → (k ≤ cn) → (RI qb (cnt (visb (omF au) er ac) k) n9 best fst9) → ∀ (ls : Array Slot), lv_has ls 8 [(0, .ref hm), (1, .int (iI (x))), (2, .int (iI 0)), (3, .int (iI ((best : Nat) : Int))), (4, .int (iI (fst9))), (5, .int (iI ((n9 : Nat) : Int))), (6, .int (iI ((cnt (visb (omF au) er ac) k : Nat) : Int))), (7, .int (iI ((k : Nat) : Int)))] → W p l e ({ frames := 2, cells := 0, slots := 0, locals := 43 }) s m ([.ref hm, .int (iI (x)), .int (iI 0)] : List Value).toArray below meth c s.heap [] 0 0 (MQ below (QO ((stp qb (bst qb (cnt (visb (omF au) er ac) cn)) (cnt (visb (omF au) er ac) cn) : Nat) : Int)) ([.ref hm, .int (iI (x)), .int (iI 0)] : List Value).toArray s 0 0 (fun _ => False)) (F0 m 39 ls []) := by
          intro n_39
          induction n_39 with
          | zero => intro k n9 best fst9 h_meas; exact absurd h_meas (Nat.not_lt_zero _)
          | succ n_39 ih_39 =>
            intro k n9 best fst9 h_m39 ik ir ls hl
            have hauk := hau k
            have hck := cnt_le (visb (omF au) er ac) k
            have hn9 := ir.1.1
            have hbl : best ≤ cnt (visb (omF au) er ac) k := by obtain ⟨b, _, _, h3, _, _⟩ := ir.2; have := stp_le qb b (cnt (visb (omF au) er ac) k); omega
            have hqk := hqb k
            refine lv_iload hx hb dX5_run_39 (lv_at hl 7 rfl) ?_
            refine lv_aload_n hx hb dX5_run_41 rfl (lv_at hl 0 rfl) ?_
            refine va_get (D := D) (ci := 5) (v := .ref m1) (C := RX5) (T := TX5) (N := 17) hx hb hts nX5_run_X5 hown hK hP 0 rfl rfl 0 (by decide) (hts _ kX5_run_7) (fun _ h9 => h9) rfl dX5_run_42 ?_
            refine r_iconst hx hb dX5_run_45 ?_
            refine r_ialdV (v := ((cn : Nat) : Int)) hx hb hK hP 1 0 rfl rfl (0) (rfl) (by decide) (by decide) (rfl) dX5_run_46 ?_
            refine r_icmp_ge (tgt := 132) hx hb (by first | omega | (rw [← hre9.1]) | (rw [← hre9.2]) | exact hre9.1 | exact hre9.2) (by first | omega | (rw [← hre9.1]) | (rw [← hre9.2]) | exact hre9.1 | exact hre9.2) dX5_run_47 (by decide) (fun c_15 => ?_) (fun c_15 => ?_)
            · skip
              obtain rfl : cn = k := by omega
              have hre9 := RI_e ir
              refine lv_iload_n hx hb dX5_run_132 rfl (lv_at hl 2 rfl) ?_
              refine r_if_ne (tgt := 140) hx hb (⟨by decide, by decide⟩) dX5_run_133 (by decide) (fun c_16 => ?_) (fun c_16 => ?_)
              · skip
                exact absurd c_16 (by decide)
              · skip
                refine lv_iload_n hx hb dX5_run_136 rfl (lv_at hl 3 rfl) ?_
                refine lv_goto (tgt := 142) hx hb dX5_run_137 (by decide) ?_
                exact r_iretO hx hb hr hlocks (by first | omega | (rw [← hre9.1]) | (rw [← hre9.2]) | exact hre9.1 | exact hre9.2) dX5_run_142
            · skip
              refine lv_aload_n hx hb dX5_run_50 rfl (lv_at hl 0 rfl) ?_
              refine lv_iload hx hb dX5_run_51 (lv_at hl 7 rfl) ?_
              refine lv_aload_n hx hb dX5_run_53 rfl (lv_at hl 0 rfl) ?_
              refine va_get (D := D) (ci := 5) (v := .ref m1) (C := RX5) (T := TX5) (N := 17) hx hb hts nX5_run_X5 hown hK hP 0 rfl rfl 0 (by decide) (hts _ kX5_run_7) (fun _ h9 => h9) rfl dX5_run_54 ?_
              refine r_iconst hx hb dX5_run_57 ?_
              refine r_ialdV (v := ((ac : Nat) : Int)) hx hb hK hP 1 0 rfl rfl (2) (rfl) (by decide) (by decide) (rfl) dX5_run_58 ?_
              refine callVO (n := 2) (As := [.int (iI ((k : Nat) : Int)), .int (iI ((ac : Nat) : Int))]) (rest := []) (wc := [(hm, .inr (5, [.ref m1, .ref m2, .ref m3, .int (iI ((pa : Nat) : Int)), .int (iI ((pb : Nat) : Int)), .ref m4, .int (iI ((cp : Nat) : Int)), .ref m5, .int (iI ((ty : Nat) : Int)), .ref m6, .int (iI ((nx : Nat) : Int)), .int (iI (fi)), .int (iI (se)), .int (iI ((le : Nat) : Int)), .ref m7, .int (iI (bp)), .ref m8])), (m1, .inl (cI, 516, .inl (rI (sF cn en ac cu co au er ki bs))))]) S (m_isVisible l D cI cB cZ cO hm m1 m2 m3 m4 m5 m6 m7 m8 pa pb cp ty nx fi se le bp cn en ac cu co au er ki bs k ac (by first | assumption | (first | omega | (rw [← hre9.1]) | (rw [← hre9.2]) | exact hre9.1 | exact hre9.2)) (by first | assumption | (first | omega | (rw [← hre9.1]) | (rw [← hre9.2]) | exact hre9.1 | exact hre9.2)) (by first | assumption | (first | omega | (rw [← hre9.1]) | (rw [← hre9.2]) | exact hre9.1 | exact hre9.2)) (by first | assumption | (first | omega | (rw [← hre9.1]) | (rw [← hre9.2]) | exact hre9.1 | exact hre9.2))) gX5_run_X5_isVisible rfl ⟨rfl, rfl⟩ (by decide +kernel) ⟨Nat.le_of_ble_eq_true rfl, Nat.le_of_ble_eq_true rfl⟩ hE hP [0, 1] rfl 5 0 rfl rfl rfl hl.1 rfl (Nat.le_of_ble_eq_true rfl) dX5_run_59 ⟨Nat.le_of_ble_eq_true rfl, Nat.le_of_ble_eq_true rfl⟩ ?_
              refine r_ifb_eq (tgt := 126) hx hb dX5_run_62 (by decide) (fun c_17 => ?_) (fun c_17 => ?_)
              · skip
                refine lv_iinc (v := iI ((k + 1 : Nat) : Int)) (lv' := [(7, .int (iI ((k + 1 : Nat) : Int))), (0, .ref hm), (1, .int (iI (x))), (2, .int (iI 0)), (3, .int (iI ((best : Nat) : Int))), (4, .int (iI (fst9))), (5, .int (iI ((n9 : Nat) : Int))), (6, .int (iI ((cnt (visb (omF au) er ac) k : Nat) : Int)))]) hx hb dX5_run_126 hl (k := 7) rfl ((iI_add _ _).trans (ii (rfl))) (by decide) rfl (fun ls hl => ?_)
                refine lv_goto (tgt := 39) hx hb dX5_run_129 (by decide) ?_
                have hl : lv_has ls 8 [(7, .int (iI ((k + 1 : Nat) : Int))), (0, .ref hm), (1, .int (iI (x))), (2, .int (iI 0)), (3, .int (iI ((best : Nat) : Int))), (4, .int (iI (fst9))), (5, .int (iI ((n9 : Nat) : Int))), (6, .int (iI ((cnt (visb (omF au) er ac) (k + 1) : Nat) : Int)))] := lv_chg hl 7 6 rfl (show (((cnt (visb (omF au) er ac) k : Nat) : Int) : Int) = ((cnt (visb (omF au) er ac) (k + 1) : Nat) : Int) from by first | (rw [cnt_vt (by assumption)]) | (rw [cnt_vf (by assumption)])) rfl
                exact ih_39 (k + 1) n9 best fst9 (by first | omega | (rw [← hre9.1]) | (rw [← hre9.2]) | exact hre9.1 | exact hre9.2) (by first | assumption | (first | omega | (rw [← hre9.1]) | (rw [← hre9.2]) | exact hre9.1 | exact hre9.2)) (by first | (rw [cnt_vf (by assumption)]; assumption) | (rw [cnt_vt (by assumption)]; have h9 := hqk (by omega) (by assumption); first | exact RI_f ir (fun z => absurd (h9.mp z) (by omega)) | exact RI_n ir (h9.mpr (by omega)) (by omega) | exact RI_k ir (h9.mpr (by omega)) (by omega)) | (exfalso; omega)) ls (lv_sub hl [1, 2, 3, 4, 5, 6, 7, 0] rfl)
              · skip
                refine lv_aload_n hx hb dX5_run_65 rfl (lv_at hl 0 rfl) ?_
                refine va_get (D := D) (ci := 5) (v := .ref m1) (C := RX5) (T := TX5) (N := 17) hx hb hts nX5_run_X5 hown hK hP 0 rfl rfl 0 (by decide) (hts _ kX5_run_7) (fun _ h9 => h9) rfl dX5_run_66 ?_
                refine r_sipush hx hb dX5_run_69 (by decide) ?_
                refine lv_iload hx hb dX5_run_72 (lv_at hl 7 rfl) ?_
                refine r_iadd (v := ((164 + k : Nat) : Int)) hx hb (rfl) dX5_run_74 ?_
                refine r_ialdV (v := (au k)) hx hb hK hP 1 0 rfl rfl (164 + k) (rfl) (by first | omega | (rw [← hre9.1]) | (rw [← hre9.2]) | exact hre9.1 | exact hre9.2) (by decide) (sF_au (by first | omega | (rw [← hre9.1]) | (rw [← hre9.2]) | exact hre9.1 | exact hre9.2)) dX5_run_75 ?_
                refine lv_iload_n hx hb dX5_run_76 rfl (lv_at hl 1 rfl) ?_
                refine r_icmp_ne (tgt := 87) hx hb (by first | omega | (rw [← hre9.1]) | (rw [← hre9.2]) | exact hre9.1 | exact hre9.2) (by first | omega | (rw [← hre9.1]) | (rw [← hre9.2]) | exact hre9.1 | exact hre9.2) dX5_run_77 (by decide) (fun c_18 => ?_) (fun c_18 => ?_)
                · skip
                  refine r_iconst hx hb dX5_run_87 ?_
                  refine lv_istore (lv' := [(5, .int (iI 0)), (0, .ref hm), (1, .int (iI (x))), (2, .int (iI 0)), (3, .int (iI ((best : Nat) : Int))), (4, .int (iI (fst9))), (6, .int (iI ((cnt (visb (omF au) er ac) k : Nat) : Int))), (7, .int (iI ((k : Nat) : Int)))]) hx hb dX5_run_88 hl (by decide) rfl (fun ls hl => ?_)
                  refine lv_iload hx hb dX5_run_90 (lv_at hl 0 rfl) ?_
                  refine lv_iload_n hx hb dX5_run_92 rfl (lv_at hl 4 rfl) ?_
                  refine r_icmp_le (tgt := 106) hx hb (⟨by decide, by decide⟩) (by first | omega | (rw [← hre9.1]) | (rw [← hre9.2]) | exact hre9.1 | exact hre9.2) dX5_run_93 (by decide) (fun c_19 => ?_) (fun c_19 => ?_)
                  · skip
                    refine lv_iload hx hb dX5_run_106 (lv_at hl 5 rfl) ?_
                    refine lv_istore (lv' := [(4, .int (iI (fst9))), (5, .int (iI 0)), (0, .ref hm), (1, .int (iI (x))), (2, .int (iI 0)), (3, .int (iI ((best : Nat) : Int))), (6, .int (iI ((cnt (visb (omF au) er ac) k : Nat) : Int))), (7, .int (iI ((k : Nat) : Int)))]) hx hb dX5_run_108 hl (by decide) rfl (fun ls hl => ?_)
                    refine lv_iload hx hb dX5_run_110 (lv_at hl 1 rfl) ?_
                    refine lv_iload_n hx hb dX5_run_112 rfl (lv_at hl 5 rfl) ?_
                    refine r_icmp_le (tgt := 121) hx hb (⟨by decide, by decide⟩) (by first | omega | (rw [← hre9.1]) | (rw [← hre9.2]) | exact hre9.1 | exact hre9.2) dX5_run_113 (by decide) (fun c_20 => ?_) (fun c_20 => ?_)
                    · skip
                      refine lv_iload_n hx hb dX5_run_121 rfl (lv_at hl 5 rfl) ?_
                      refine lv_istore_n (lv' := [(3, .int (iI ((best : Nat) : Int))), (4, .int (iI (fst9))), (5, .int (iI 0)), (0, .ref hm), (1, .int (iI (x))), (2, .int (iI 0)), (6, .int (iI ((cnt (visb (omF au) er ac) k : Nat) : Int))), (7, .int (iI ((k : Nat) : Int)))]) hx hb dX5_run_122 rfl hl (by decide) rfl (fun ls hl => ?_)
                      refine lv_iinc (v := iI (((cnt (visb (omF au) er ac) k) + 1 : Nat) : Int)) (lv' := [(6, .int (iI (((cnt (visb (omF au) er ac) k) + 1 : Nat) : Int))), (3, .int (iI ((best : Nat) : Int))), (4, .int (iI (fst9))), (5, .int (iI 0)), (0, .ref hm), (1, .int (iI (x))), (2, .int (iI 0)), (7, .int (iI ((k : Nat) : Int)))]) hx hb dX5_run_123 hl (k := 6) rfl ((iI_add _ _).trans (ii (rfl))) (by decide) rfl (fun ls hl => ?_)
                      refine lv_iinc (v := iI ((k + 1 : Nat) : Int)) (lv' := [(7, .int (iI ((k + 1 : Nat) : Int))), (6, .int (iI (((cnt (visb (omF au) er ac) k) + 1 : Nat) : Int))), (3, .int (iI ((best : Nat) : Int))), (4, .int (iI (fst9))), (5, .int (iI 0)), (0, .ref hm), (1, .int (iI (x))), (2, .int (iI 0))]) hx hb dX5_run_126 hl (k := 7) rfl ((iI_add _ _).trans (ii (rfl))) (by decide) rfl (fun ls hl => ?_)
                      refine lv_goto (tgt := 39) hx hb dX5_run_129 (by decide) ?_
                      have hl : lv_has ls 8 [(7, .int (iI ((k + 1 : Nat) : Int))), (6, .int (iI ((cnt (visb (omF au) er ac) (k + 1) : Nat) : Int))), (3, .int (iI ((best : Nat) : Int))), (4, .int (iI (fst9))), (5, .int (iI 0)), (0, .ref hm), (1, .int (iI (x))), (2, .int (iI 0))] := lv_chg hl 1 6 rfl (show ((((cnt (visb (omF au) er ac) k) + 1 : Nat) : Int) : Int) = ((cnt (visb (omF au) er ac) (k + 1) : Nat) : Int) from by first | (rw [cnt_vt (by assumption)]) | (rw [cnt_vf (by assumption)])) rfl
                      exact ih_39 (k + 1) 0 best fst9 (by first | omega | (rw [← hre9.1]) | (rw [← hre9.2]) | exact hre9.1 | exact hre9.2) (by first | assumption | (first | omega | (rw [← hre9.1]) | (rw [← hre9.2]) | exact hre9.1 | exact hre9.2)) (by first | (rw [cnt_vf (by assumption)]; assumption) | (rw [cnt_vt (by assumption)]; have h9 := hqk (by omega) (by assumption); first | exact RI_f ir (fun z => absurd (h9.mp z) (by omega)) | exact RI_n ir (h9.mpr (by omega)) (by omega) | exact RI_k ir (h9.mpr (by omega)) (by omega)) | (exfalso; omega)) ls (lv_sub hl [5, 6, 7, 2, 3, 4, 1, 0] rfl)
                    · skip
                      refine lv_iload hx hb dX5_run_116 (lv_at hl 1 rfl) ?_
                      refine lv_goto (tgt := 122) hx hb dX5_run_118 (by decide) ?_
                      refine lv_istore_n (lv' := [(3, .int (iI 0)), (4, .int (iI (fst9))), (5, .int (iI 0)), (0, .ref hm), (1, .int (iI (x))), (2, .int (iI 0)), (6, .int (iI ((cnt (visb (omF au) er ac) k : Nat) : Int))), (7, .int (iI ((k : Nat) : Int)))]) hx hb dX5_run_122 rfl hl (by decide) rfl (fun ls hl => ?_)
                      refine lv_iinc (v := iI (((cnt (visb (omF au) er ac) k) + 1 : Nat) : Int)) (lv' := [(6, .int (iI (((cnt (visb (omF au) er ac) k) + 1 : Nat) : Int))), (3, .int (iI 0)), (4, .int (iI (fst9))), (5, .int (iI 0)), (0, .ref hm), (1, .int (iI (x))), (2, .int (iI 0)), (7, .int (iI ((k : Nat) : Int)))]) hx hb dX5_run_123 hl (k := 6) rfl ((iI_add _ _).trans (ii (rfl))) (by decide) rfl (fun ls hl => ?_)
                      refine lv_iinc (v := iI ((k + 1 : Nat) : Int)) (lv' := [(7, .int (iI ((k + 1 : Nat) : Int))), (6, .int (iI (((cnt (visb (omF au) er ac) k) + 1 : Nat) : Int))), (3, .int (iI 0)), (4, .int (iI (fst9))), (5, .int (iI 0)), (0, .ref hm), (1, .int (iI (x))), (2, .int (iI 0))]) hx hb dX5_run_126 hl (k := 7) rfl ((iI_add _ _).trans (ii (rfl))) (by decide) rfl (fun ls hl => ?_)
                      refine lv_goto (tgt := 39) hx hb dX5_run_129 (by decide) ?_
                      have hl : lv_has ls 8 [(7, .int (iI ((k + 1 : Nat) : Int))), (6, .int (iI ((cnt (visb (omF au) er ac) (k + 1) : Nat) : Int))), (3, .int (iI 0)), (4, .int (iI (fst9))), (5, .int (iI 0)), (0, .ref hm), (1, .int (iI (x))), (2, .int (iI 0))] := lv_chg hl 1 6 rfl (show ((((cnt (visb (omF au) er ac) k) + 1 : Nat) : Int) : Int) = ((cnt (visb (omF au) er ac) (k + 1) : Nat) : Int) from by first | (rw [cnt_vt (by assumption)]) | (rw [cnt_vf (by assumption)])) rfl
                      exact ih_39 (k + 1) 0 0 fst9 (by first | omega | (rw [← hre9.1]) | (rw [← hre9.2]) | exact hre9.1 | exact hre9.2) (by first | assumption | (first | omega | (rw [← hre9.1]) | (rw [← hre9.2]) | exact hre9.1 | exact hre9.2)) (by first | (rw [cnt_vf (by assumption)]; assumption) | (rw [cnt_vt (by assumption)]; have h9 := hqk (by omega) (by assumption); first | exact RI_f ir (fun z => absurd (h9.mp z) (by omega)) | exact RI_n ir (h9.mpr (by omega)) (by omega) | exact RI_k ir (h9.mpr (by omega)) (by omega)) | (exfalso; omega)) ls (lv_sub hl [5, 6, 7, 2, 3, 4, 1, 0] rfl)
                  · skip
                    refine lv_iload hx hb dX5_run_96 (lv_at hl 6 rfl) ?_
                    refine lv_iload hx hb dX5_run_98 (lv_at hl 0 rfl) ?_
                    refine r_isub (v := (((cnt (visb (omF au) er ac) k : Nat) : Int) - 0)) hx hb (rfl) dX5_run_100 ?_
                    refine r_iconst hx hb dX5_run_101 ?_
                    refine r_iadd (v := ((((cnt (visb (omF au) er ac) k : Nat) : Int) - 0) + 1)) hx hb (rfl) dX5_run_102 ?_
                    refine lv_goto (tgt := 108) hx hb dX5_run_103 (by decide) ?_
                    refine lv_istore (lv' := [(4, .int (iI ((((cnt (visb (omF au) er ac) k : Nat) : Int) - 0) + 1))), (5, .int (iI 0)), (0, .ref hm), (1, .int (iI (x))), (2, .int (iI 0)), (3, .int (iI ((best : Nat) : Int))), (6, .int (iI ((cnt (visb (omF au) er ac) k : Nat) : Int))), (7, .int (iI ((k : Nat) : Int)))]) hx hb dX5_run_108 hl (by decide) rfl (fun ls hl => ?_)
                    refine lv_iload hx hb dX5_run_110 (lv_at hl 1 rfl) ?_
                    refine lv_iload_n hx hb dX5_run_112 rfl (lv_at hl 5 rfl) ?_
                    refine r_icmp_le (tgt := 121) hx hb (⟨by decide, by decide⟩) (by first | omega | (rw [← hre9.1]) | (rw [← hre9.2]) | exact hre9.1 | exact hre9.2) dX5_run_113 (by decide) (fun c_21 => ?_) (fun c_21 => ?_)
                    · skip
                      refine lv_iload_n hx hb dX5_run_121 rfl (lv_at hl 5 rfl) ?_
                      refine lv_istore_n (lv' := [(3, .int (iI ((best : Nat) : Int))), (4, .int (iI ((((cnt (visb (omF au) er ac) k : Nat) : Int) - 0) + 1))), (5, .int (iI 0)), (0, .ref hm), (1, .int (iI (x))), (2, .int (iI 0)), (6, .int (iI ((cnt (visb (omF au) er ac) k : Nat) : Int))), (7, .int (iI ((k : Nat) : Int)))]) hx hb dX5_run_122 rfl hl (by decide) rfl (fun ls hl => ?_)
                      refine lv_iinc (v := iI (((cnt (visb (omF au) er ac) k) + 1 : Nat) : Int)) (lv' := [(6, .int (iI (((cnt (visb (omF au) er ac) k) + 1 : Nat) : Int))), (3, .int (iI ((best : Nat) : Int))), (4, .int (iI ((((cnt (visb (omF au) er ac) k : Nat) : Int) - 0) + 1))), (5, .int (iI 0)), (0, .ref hm), (1, .int (iI (x))), (2, .int (iI 0)), (7, .int (iI ((k : Nat) : Int)))]) hx hb dX5_run_123 hl (k := 6) rfl ((iI_add _ _).trans (ii (rfl))) (by decide) rfl (fun ls hl => ?_)
                      refine lv_iinc (v := iI ((k + 1 : Nat) : Int)) (lv' := [(7, .int (iI ((k + 1 : Nat) : Int))), (6, .int (iI (((cnt (visb (omF au) er ac) k) + 1 : Nat) : Int))), (3, .int (iI ((best : Nat) : Int))), (4, .int (iI ((((cnt (visb (omF au) er ac) k : Nat) : Int) - 0) + 1))), (5, .int (iI 0)), (0, .ref hm), (1, .int (iI (x))), (2, .int (iI 0))]) hx hb dX5_run_126 hl (k := 7) rfl ((iI_add _ _).trans (ii (rfl))) (by decide) rfl (fun ls hl => ?_)
                      refine lv_goto (tgt := 39) hx hb dX5_run_129 (by decide) ?_
                      have hl : lv_has ls 8 [(7, .int (iI ((k + 1 : Nat) : Int))), (6, .int (iI ((cnt (visb (omF au) er ac) (k + 1) : Nat) : Int))), (3, .int (iI ((best : Nat) : Int))), (4, .int (iI ((((cnt (visb (omF au) er ac) k : Nat) : Int) - 0) + 1))), (5, .int (iI 0)), (0, .ref hm), (1, .int (iI (x))), (2, .int (iI 0))] := lv_chg hl 1 6 rfl (show ((((cnt (visb (omF au) er ac) k) + 1 : Nat) : Int) : Int) = ((cnt (visb (omF au) er ac) (k + 1) : Nat) : Int) from by first | (rw [cnt_vt (by assumption)]) | (rw [cnt_vf (by assumption)])) rfl
                      exact ih_39 (k + 1) 0 best ((((cnt (visb (omF au) er ac) k : Nat) : Int) - 0) + 1) (by first | omega | (rw [← hre9.1]) | (rw [← hre9.2]) | exact hre9.1 | exact hre9.2) (by first | assumption | (first | omega | (rw [← hre9.1]) | (rw [← hre9.2]) | exact hre9.1 | exact hre9.2)) (by first | (rw [cnt_vf (by assumption)]; assumption) | (rw [cnt_vt (by assumption)]; have h9 := hqk (by omega) (by assumption); first | exact RI_f ir (fun z => absurd (h9.mp z) (by omega)) | exact RI_n ir (h9.mpr (by omega)) (by omega) | exact RI_k ir (h9.mpr (by omega)) (by omega)) | (exfalso; omega)) ls (lv_sub hl [5, 6, 7, 2, 3, 4, 1, 0] rfl)
                    · skip
                      refine lv_iload hx hb dX5_run_116 (lv_at hl 1 rfl) ?_
                      refine lv_goto (tgt := 122) hx hb dX5_run_118 (by decide) ?_
                      refine lv_istore_n (lv' := [(3, .int (iI 0)), (4, .int (iI ((((cnt (visb (omF au) er ac) k : Nat) : Int) - 0) + 1))), (5, .int (iI 0)), (0, .ref hm), (1, .int (iI (x))), (2, .int (iI 0)), (6, .int (iI ((cnt (visb (omF au) er ac) k : Nat) : Int))), (7, .int (iI ((k : Nat) : Int)))]) hx hb dX5_run_122 rfl hl (by decide) rfl (fun ls hl => ?_)
                      refine lv_iinc (v := iI (((cnt (visb (omF au) er ac) k) + 1 : Nat) : Int)) (lv' := [(6, .int (iI (((cnt (visb (omF au) er ac) k) + 1 : Nat) : Int))), (3, .int (iI 0)), (4, .int (iI ((((cnt (visb (omF au) er ac) k : Nat) : Int) - 0) + 1))), (5, .int (iI 0)), (0, .ref hm), (1, .int (iI (x))), (2, .int (iI 0)), (7, .int (iI ((k : Nat) : Int)))]) hx hb dX5_run_123 hl (k := 6) rfl ((iI_add _ _).trans (ii (rfl))) (by decide) rfl (fun ls hl => ?_)
                      refine lv_iinc (v := iI ((k + 1 : Nat) : Int)) (lv' := [(7, .int (iI ((k + 1 : Nat) : Int))), (6, .int (iI (((cnt (visb (omF au) er ac) k) + 1 : Nat) : Int))), (3, .int (iI 0)), (4, .int (iI ((((cnt (visb (omF au) er ac) k : Nat) : Int) - 0) + 1))), (5, .int (iI 0)), (0, .ref hm), (1, .int (iI (x))), (2, .int (iI 0))]) hx hb dX5_run_126 hl (k := 7) rfl ((iI_add _ _).trans (ii (rfl))) (by decide) rfl (fun ls hl => ?_)
                      refine lv_goto (tgt := 39) hx hb dX5_run_129 (by decide) ?_
                      have hl : lv_has ls 8 [(7, .int (iI ((k + 1 : Nat) : Int))), (6, .int (iI ((cnt (visb (omF au) er ac) (k + 1) : Nat) : Int))), (3, .int (iI 0)), (4, .int (iI ((((cnt (visb (omF au) er ac) k : Nat) : Int) - 0) + 1))), (5, .int (iI 0)), (0, .ref hm), (1, .int (iI (x))), (2, .int (iI 0))] := lv_chg hl 1 6 rfl (show ((((cnt (visb (omF au) er ac) k) + 1 : Nat) : Int) : Int) = ((cnt (visb (omF au) er ac) (k + 1) : Nat) : Int) from by first | (rw [cnt_vt (by assumption)]) | (rw [cnt_vf (by assumption)])) rfl
                      exact ih_39 (k + 1) 0 0 ((((cnt (visb (omF au) er ac) k : Nat) : Int) - 0) + 1) (by first | omega | (rw [← hre9.1]) | (rw [← hre9.2]) | exact hre9.1 | exact hre9.2) (by first | assumption | (first | omega | (rw [← hre9.1]) | (rw [← hre9.2]) | exact hre9.1 | exact hre9.2)) (by first | (rw [cnt_vf (by assumption)]; assumption) | (rw [cnt_vt (by assumption)]; have h9 := hqk (by omega) (by assumption); first | exact RI_f ir (fun z => absurd (h9.mp z) (by omega)) | exact RI_n ir (h9.mpr (by omega)) (by omega) | exact RI_k ir (h9.mpr (by omega)) (by omega)) | (exfalso; omega)) ls (lv_sub hl [5, 6, 7, 2, 3, 4, 1, 0] rfl)
                · skip
                  refine lv_iload hx hb dX5_run_80 (lv_at hl 5 rfl) ?_
                  refine r_iconst hx hb dX5_run_82 ?_
                  refine r_iadd (v := ((n9 + 1 : Nat) : Int)) hx hb (rfl) dX5_run_83 ?_
                  refine lv_goto (tgt := 88) hx hb dX5_run_84 (by decide) ?_
                  refine lv_istore (lv' := [(5, .int (iI ((n9 + 1 : Nat) : Int))), (0, .ref hm), (1, .int (iI (x))), (2, .int (iI 0)), (3, .int (iI ((best : Nat) : Int))), (4, .int (iI (fst9))), (6, .int (iI ((cnt (visb (omF au) er ac) k : Nat) : Int))), (7, .int (iI ((k : Nat) : Int)))]) hx hb dX5_run_88 hl (by decide) rfl (fun ls hl => ?_)
                  refine lv_iload hx hb dX5_run_90 (lv_at hl 0 rfl) ?_
                  refine lv_iload_n hx hb dX5_run_92 rfl (lv_at hl 4 rfl) ?_
                  refine r_icmp_le (tgt := 106) hx hb (by first | omega | (rw [← hre9.1]) | (rw [← hre9.2]) | exact hre9.1 | exact hre9.2) (by first | omega | (rw [← hre9.1]) | (rw [← hre9.2]) | exact hre9.1 | exact hre9.2) dX5_run_93 (by decide) (fun c_22 => ?_) (fun c_22 => ?_)
                  · skip
                    refine lv_iload hx hb dX5_run_106 (lv_at hl 5 rfl) ?_
                    refine lv_istore (lv' := [(4, .int (iI (fst9))), (5, .int (iI ((n9 + 1 : Nat) : Int))), (0, .ref hm), (1, .int (iI (x))), (2, .int (iI 0)), (3, .int (iI ((best : Nat) : Int))), (6, .int (iI ((cnt (visb (omF au) er ac) k : Nat) : Int))), (7, .int (iI ((k : Nat) : Int)))]) hx hb dX5_run_108 hl (by decide) rfl (fun ls hl => ?_)
                    refine lv_iload hx hb dX5_run_110 (lv_at hl 1 rfl) ?_
                    refine lv_iload_n hx hb dX5_run_112 rfl (lv_at hl 5 rfl) ?_
                    refine r_icmp_le (tgt := 121) hx hb (by first | omega | (rw [← hre9.1]) | (rw [← hre9.2]) | exact hre9.1 | exact hre9.2) (by first | omega | (rw [← hre9.1]) | (rw [← hre9.2]) | exact hre9.1 | exact hre9.2) dX5_run_113 (by decide) (fun c_23 => ?_) (fun c_23 => ?_)
                    · skip
                      refine lv_iload_n hx hb dX5_run_121 rfl (lv_at hl 5 rfl) ?_
                      refine lv_istore_n (lv' := [(3, .int (iI ((best : Nat) : Int))), (4, .int (iI (fst9))), (5, .int (iI ((n9 + 1 : Nat) : Int))), (0, .ref hm), (1, .int (iI (x))), (2, .int (iI 0)), (6, .int (iI ((cnt (visb (omF au) er ac) k : Nat) : Int))), (7, .int (iI ((k : Nat) : Int)))]) hx hb dX5_run_122 rfl hl (by decide) rfl (fun ls hl => ?_)
                      refine lv_iinc (v := iI (((cnt (visb (omF au) er ac) k) + 1 : Nat) : Int)) (lv' := [(6, .int (iI (((cnt (visb (omF au) er ac) k) + 1 : Nat) : Int))), (3, .int (iI ((best : Nat) : Int))), (4, .int (iI (fst9))), (5, .int (iI ((n9 + 1 : Nat) : Int))), (0, .ref hm), (1, .int (iI (x))), (2, .int (iI 0)), (7, .int (iI ((k : Nat) : Int)))]) hx hb dX5_run_123 hl (k := 6) rfl ((iI_add _ _).trans (ii (rfl))) (by decide) rfl (fun ls hl => ?_)
                      refine lv_iinc (v := iI ((k + 1 : Nat) : Int)) (lv' := [(7, .int (iI ((k + 1 : Nat) : Int))), (6, .int (iI (((cnt (visb (omF au) er ac) k) + 1 : Nat) : Int))), (3, .int (iI ((best : Nat) : Int))), (4, .int (iI (fst9))), (5, .int (iI ((n9 + 1 : Nat) : Int))), (0, .ref hm), (1, .int (iI (x))), (2, .int (iI 0))]) hx hb dX5_run_126 hl (k := 7) rfl ((iI_add _ _).trans (ii (rfl))) (by decide) rfl (fun ls hl => ?_)
                      refine lv_goto (tgt := 39) hx hb dX5_run_129 (by decide) ?_
                      have hl : lv_has ls 8 [(7, .int (iI ((k + 1 : Nat) : Int))), (6, .int (iI ((cnt (visb (omF au) er ac) (k + 1) : Nat) : Int))), (3, .int (iI ((best : Nat) : Int))), (4, .int (iI (fst9))), (5, .int (iI ((n9 + 1 : Nat) : Int))), (0, .ref hm), (1, .int (iI (x))), (2, .int (iI 0))] := lv_chg hl 1 6 rfl (show ((((cnt (visb (omF au) er ac) k) + 1 : Nat) : Int) : Int) = ((cnt (visb (omF au) er ac) (k + 1) : Nat) : Int) from by first | (rw [cnt_vt (by assumption)]) | (rw [cnt_vf (by assumption)])) rfl
                      exact ih_39 (k + 1) (n9 + 1) best fst9 (by first | omega | (rw [← hre9.1]) | (rw [← hre9.2]) | exact hre9.1 | exact hre9.2) (by first | assumption | (first | omega | (rw [← hre9.1]) | (rw [← hre9.2]) | exact hre9.1 | exact hre9.2)) (by first | (rw [cnt_vf (by assumption)]; assumption) | (rw [cnt_vt (by assumption)]; have h9 := hqk (by omega) (by assumption); first | exact RI_f ir (fun z => absurd (h9.mp z) (by omega)) | exact RI_n ir (h9.mpr (by omega)) (by omega) | exact RI_k ir (h9.mpr (by omega)) (by omega)) | (exfalso; omega)) ls (lv_sub hl [5, 6, 7, 2, 3, 4, 1, 0] rfl)
                    · skip
                      refine lv_iload hx hb dX5_run_116 (lv_at hl 1 rfl) ?_
                      refine lv_goto (tgt := 122) hx hb dX5_run_118 (by decide) ?_
                      refine lv_istore_n (lv' := [(3, .int (iI ((n9 + 1 : Nat) : Int))), (4, .int (iI (fst9))), (5, .int (iI ((n9 + 1 : Nat) : Int))), (0, .ref hm), (1, .int (iI (x))), (2, .int (iI 0)), (6, .int (iI ((cnt (visb (omF au) er ac) k : Nat) : Int))), (7, .int (iI ((k : Nat) : Int)))]) hx hb dX5_run_122 rfl hl (by decide) rfl (fun ls hl => ?_)
                      refine lv_iinc (v := iI (((cnt (visb (omF au) er ac) k) + 1 : Nat) : Int)) (lv' := [(6, .int (iI (((cnt (visb (omF au) er ac) k) + 1 : Nat) : Int))), (3, .int (iI ((n9 + 1 : Nat) : Int))), (4, .int (iI (fst9))), (5, .int (iI ((n9 + 1 : Nat) : Int))), (0, .ref hm), (1, .int (iI (x))), (2, .int (iI 0)), (7, .int (iI ((k : Nat) : Int)))]) hx hb dX5_run_123 hl (k := 6) rfl ((iI_add _ _).trans (ii (rfl))) (by decide) rfl (fun ls hl => ?_)
                      refine lv_iinc (v := iI ((k + 1 : Nat) : Int)) (lv' := [(7, .int (iI ((k + 1 : Nat) : Int))), (6, .int (iI (((cnt (visb (omF au) er ac) k) + 1 : Nat) : Int))), (3, .int (iI ((n9 + 1 : Nat) : Int))), (4, .int (iI (fst9))), (5, .int (iI ((n9 + 1 : Nat) : Int))), (0, .ref hm), (1, .int (iI (x))), (2, .int (iI 0))]) hx hb dX5_run_126 hl (k := 7) rfl ((iI_add _ _).trans (ii (rfl))) (by decide) rfl (fun ls hl => ?_)
                      refine lv_goto (tgt := 39) hx hb dX5_run_129 (by decide) ?_
                      have hl : lv_has ls 8 [(7, .int (iI ((k + 1 : Nat) : Int))), (6, .int (iI ((cnt (visb (omF au) er ac) (k + 1) : Nat) : Int))), (3, .int (iI ((n9 + 1 : Nat) : Int))), (4, .int (iI (fst9))), (5, .int (iI ((n9 + 1 : Nat) : Int))), (0, .ref hm), (1, .int (iI (x))), (2, .int (iI 0))] := lv_chg hl 1 6 rfl (show ((((cnt (visb (omF au) er ac) k) + 1 : Nat) : Int) : Int) = ((cnt (visb (omF au) er ac) (k + 1) : Nat) : Int) from by first | (rw [cnt_vt (by assumption)]) | (rw [cnt_vf (by assumption)])) rfl
                      exact ih_39 (k + 1) (n9 + 1) (n9 + 1) fst9 (by first | omega | (rw [← hre9.1]) | (rw [← hre9.2]) | exact hre9.1 | exact hre9.2) (by first | assumption | (first | omega | (rw [← hre9.1]) | (rw [← hre9.2]) | exact hre9.1 | exact hre9.2)) (by first | (rw [cnt_vf (by assumption)]; assumption) | (rw [cnt_vt (by assumption)]; have h9 := hqk (by omega) (by assumption); first | exact RI_f ir (fun z => absurd (h9.mp z) (by omega)) | exact RI_n ir (h9.mpr (by omega)) (by omega) | exact RI_k ir (h9.mpr (by omega)) (by omega)) | (exfalso; omega)) ls (lv_sub hl [5, 6, 7, 2, 3, 4, 1, 0] rfl)
                  · skip
                    refine lv_iload hx hb dX5_run_96 (lv_at hl 6 rfl) ?_
                    refine lv_iload hx hb dX5_run_98 (lv_at hl 0 rfl) ?_
                    refine r_isub (v := (((cnt (visb (omF au) er ac) k : Nat) : Int) - ((n9 + 1 : Nat) : Int))) hx hb (rfl) dX5_run_100 ?_
                    refine r_iconst hx hb dX5_run_101 ?_
                    refine r_iadd (v := ((((cnt (visb (omF au) er ac) k : Nat) : Int) - ((n9 + 1 : Nat) : Int)) + 1)) hx hb (rfl) dX5_run_102 ?_
                    refine lv_goto (tgt := 108) hx hb dX5_run_103 (by decide) ?_
                    refine lv_istore (lv' := [(4, .int (iI ((((cnt (visb (omF au) er ac) k : Nat) : Int) - ((n9 + 1 : Nat) : Int)) + 1))), (5, .int (iI ((n9 + 1 : Nat) : Int))), (0, .ref hm), (1, .int (iI (x))), (2, .int (iI 0)), (3, .int (iI ((best : Nat) : Int))), (6, .int (iI ((cnt (visb (omF au) er ac) k : Nat) : Int))), (7, .int (iI ((k : Nat) : Int)))]) hx hb dX5_run_108 hl (by decide) rfl (fun ls hl => ?_)
                    refine lv_iload hx hb dX5_run_110 (lv_at hl 1 rfl) ?_
                    refine lv_iload_n hx hb dX5_run_112 rfl (lv_at hl 5 rfl) ?_
                    refine r_icmp_le (tgt := 121) hx hb (by first | omega | (rw [← hre9.1]) | (rw [← hre9.2]) | exact hre9.1 | exact hre9.2) (by first | omega | (rw [← hre9.1]) | (rw [← hre9.2]) | exact hre9.1 | exact hre9.2) dX5_run_113 (by decide) (fun c_24 => ?_) (fun c_24 => ?_)
                    · skip
                      refine lv_iload_n hx hb dX5_run_121 rfl (lv_at hl 5 rfl) ?_
                      refine lv_istore_n (lv' := [(3, .int (iI ((best : Nat) : Int))), (4, .int (iI ((((cnt (visb (omF au) er ac) k : Nat) : Int) - ((n9 + 1 : Nat) : Int)) + 1))), (5, .int (iI ((n9 + 1 : Nat) : Int))), (0, .ref hm), (1, .int (iI (x))), (2, .int (iI 0)), (6, .int (iI ((cnt (visb (omF au) er ac) k : Nat) : Int))), (7, .int (iI ((k : Nat) : Int)))]) hx hb dX5_run_122 rfl hl (by decide) rfl (fun ls hl => ?_)
                      refine lv_iinc (v := iI (((cnt (visb (omF au) er ac) k) + 1 : Nat) : Int)) (lv' := [(6, .int (iI (((cnt (visb (omF au) er ac) k) + 1 : Nat) : Int))), (3, .int (iI ((best : Nat) : Int))), (4, .int (iI ((((cnt (visb (omF au) er ac) k : Nat) : Int) - ((n9 + 1 : Nat) : Int)) + 1))), (5, .int (iI ((n9 + 1 : Nat) : Int))), (0, .ref hm), (1, .int (iI (x))), (2, .int (iI 0)), (7, .int (iI ((k : Nat) : Int)))]) hx hb dX5_run_123 hl (k := 6) rfl ((iI_add _ _).trans (ii (rfl))) (by decide) rfl (fun ls hl => ?_)
                      refine lv_iinc (v := iI ((k + 1 : Nat) : Int)) (lv' := [(7, .int (iI ((k + 1 : Nat) : Int))), (6, .int (iI (((cnt (visb (omF au) er ac) k) + 1 : Nat) : Int))), (3, .int (iI ((best : Nat) : Int))), (4, .int (iI ((((cnt (visb (omF au) er ac) k : Nat) : Int) - ((n9 + 1 : Nat) : Int)) + 1))), (5, .int (iI ((n9 + 1 : Nat) : Int))), (0, .ref hm), (1, .int (iI (x))), (2, .int (iI 0))]) hx hb dX5_run_126 hl (k := 7) rfl ((iI_add _ _).trans (ii (rfl))) (by decide) rfl (fun ls hl => ?_)
                      refine lv_goto (tgt := 39) hx hb dX5_run_129 (by decide) ?_
                      have hl : lv_has ls 8 [(7, .int (iI ((k + 1 : Nat) : Int))), (6, .int (iI ((cnt (visb (omF au) er ac) (k + 1) : Nat) : Int))), (3, .int (iI ((best : Nat) : Int))), (4, .int (iI ((((cnt (visb (omF au) er ac) k : Nat) : Int) - ((n9 + 1 : Nat) : Int)) + 1))), (5, .int (iI ((n9 + 1 : Nat) : Int))), (0, .ref hm), (1, .int (iI (x))), (2, .int (iI 0))] := lv_chg hl 1 6 rfl (show ((((cnt (visb (omF au) er ac) k) + 1 : Nat) : Int) : Int) = ((cnt (visb (omF au) er ac) (k + 1) : Nat) : Int) from by first | (rw [cnt_vt (by assumption)]) | (rw [cnt_vf (by assumption)])) rfl
                      exact ih_39 (k + 1) (n9 + 1) best ((((cnt (visb (omF au) er ac) k : Nat) : Int) - ((n9 + 1 : Nat) : Int)) + 1) (by first | omega | (rw [← hre9.1]) | (rw [← hre9.2]) | exact hre9.1 | exact hre9.2) (by first | assumption | (first | omega | (rw [← hre9.1]) | (rw [← hre9.2]) | exact hre9.1 | exact hre9.2)) (by first | (rw [cnt_vf (by assumption)]; assumption) | (rw [cnt_vt (by assumption)]; have h9 := hqk (by omega) (by assumption); first | exact RI_f ir (fun z => absurd (h9.mp z) (by omega)) | exact RI_n ir (h9.mpr (by omega)) (by omega) | exact RI_k ir (h9.mpr (by omega)) (by omega)) | (exfalso; omega)) ls (lv_sub hl [5, 6, 7, 2, 3, 4, 1, 0] rfl)
                    · skip
                      refine lv_iload hx hb dX5_run_116 (lv_at hl 1 rfl) ?_
                      refine lv_goto (tgt := 122) hx hb dX5_run_118 (by decide) ?_
                      refine lv_istore_n (lv' := [(3, .int (iI ((n9 + 1 : Nat) : Int))), (4, .int (iI ((((cnt (visb (omF au) er ac) k : Nat) : Int) - ((n9 + 1 : Nat) : Int)) + 1))), (5, .int (iI ((n9 + 1 : Nat) : Int))), (0, .ref hm), (1, .int (iI (x))), (2, .int (iI 0)), (6, .int (iI ((cnt (visb (omF au) er ac) k : Nat) : Int))), (7, .int (iI ((k : Nat) : Int)))]) hx hb dX5_run_122 rfl hl (by decide) rfl (fun ls hl => ?_)
                      refine lv_iinc (v := iI (((cnt (visb (omF au) er ac) k) + 1 : Nat) : Int)) (lv' := [(6, .int (iI (((cnt (visb (omF au) er ac) k) + 1 : Nat) : Int))), (3, .int (iI ((n9 + 1 : Nat) : Int))), (4, .int (iI ((((cnt (visb (omF au) er ac) k : Nat) : Int) - ((n9 + 1 : Nat) : Int)) + 1))), (5, .int (iI ((n9 + 1 : Nat) : Int))), (0, .ref hm), (1, .int (iI (x))), (2, .int (iI 0)), (7, .int (iI ((k : Nat) : Int)))]) hx hb dX5_run_123 hl (k := 6) rfl ((iI_add _ _).trans (ii (rfl))) (by decide) rfl (fun ls hl => ?_)
                      refine lv_iinc (v := iI ((k + 1 : Nat) : Int)) (lv' := [(7, .int (iI ((k + 1 : Nat) : Int))), (6, .int (iI (((cnt (visb (omF au) er ac) k) + 1 : Nat) : Int))), (3, .int (iI ((n9 + 1 : Nat) : Int))), (4, .int (iI ((((cnt (visb (omF au) er ac) k : Nat) : Int) - ((n9 + 1 : Nat) : Int)) + 1))), (5, .int (iI ((n9 + 1 : Nat) : Int))), (0, .ref hm), (1, .int (iI (x))), (2, .int (iI 0))]) hx hb dX5_run_126 hl (k := 7) rfl ((iI_add _ _).trans (ii (rfl))) (by decide) rfl (fun ls hl => ?_)
                      refine lv_goto (tgt := 39) hx hb dX5_run_129 (by decide) ?_
                      have hl : lv_has ls 8 [(7, .int (iI ((k + 1 : Nat) : Int))), (6, .int (iI ((cnt (visb (omF au) er ac) (k + 1) : Nat) : Int))), (3, .int (iI ((n9 + 1 : Nat) : Int))), (4, .int (iI ((((cnt (visb (omF au) er ac) k : Nat) : Int) - ((n9 + 1 : Nat) : Int)) + 1))), (5, .int (iI ((n9 + 1 : Nat) : Int))), (0, .ref hm), (1, .int (iI (x))), (2, .int (iI 0))] := lv_chg hl 1 6 rfl (show ((((cnt (visb (omF au) er ac) k) + 1 : Nat) : Int) : Int) = ((cnt (visb (omF au) er ac) (k + 1) : Nat) : Int) from by first | (rw [cnt_vt (by assumption)]) | (rw [cnt_vf (by assumption)])) rfl
                      exact ih_39 (k + 1) (n9 + 1) (n9 + 1) ((((cnt (visb (omF au) er ac) k : Nat) : Int) - ((n9 + 1 : Nat) : Int)) + 1) (by first | omega | (rw [← hre9.1]) | (rw [← hre9.2]) | exact hre9.1 | exact hre9.2) (by first | assumption | (first | omega | (rw [← hre9.1]) | (rw [← hre9.2]) | exact hre9.1 | exact hre9.2)) (by first | (rw [cnt_vf (by assumption)]; assumption) | (rw [cnt_vt (by assumption)]; have h9 := hqk (by omega) (by assumption); first | exact RI_f ir (fun z => absurd (h9.mp z) (by omega)) | exact RI_n ir (h9.mpr (by omega)) (by omega) | exact RI_k ir (h9.mpr (by omega)) (by omega)) | (exfalso; omega)) ls (lv_sub hl [5, 6, 7, 2, 3, 4, 1, 0] rfl)
        have hl : lv_has ls 8 [(7, .int (iI 0)), (6, .int (iI ((cnt (visb (omF au) er ac) 0 : Nat) : Int))), (5, .int (iI 0)), (4, .int (iI (-9))), (3, .int (iI 0)), (0, .ref hm), (1, .int (iI (x))), (2, .int (iI 0))] := lv_chg hl 1 6 rfl (show (0 : Int) = ((cnt (visb (omF au) er ac) 0 : Nat) : Int) from by rfl) rfl
        exact loop_39 ((cn - 0) + 1) 0 0 0 (-9) (by first | omega | (rw [← hre9.1]) | (rw [← hre9.2]) | exact hre9.1 | exact hre9.2) (by first | assumption | (first | omega | (rw [← hre9.1]) | (rw [← hre9.2]) | exact hre9.1 | exact hre9.2)) (by exact RI_0) ls (lv_sub hl [5, 6, 7, 4, 3, 2, 1, 0] rfl)
      · skip
        exfalso; omega

set_option maxHeartbeats 4000000 in
set_option maxRecDepth 100000 in
theorem m_run_1 (l : Launch) (D : va_G) (cI cB cZ cO : ClassId) (hm : Nat) (m1 : Nat) (m2 : Nat) (m3 : Nat) (m4 : Nat) (m5 : Nat) (m6 : Nat) (m7 : Nat) (m8 : Nat) (pa : Nat) (pb : Nat) (cp : Nat) (ty : Nat) (nx : Nat) (fi : Int) (se : Int) (le : Nat) (bp : Int) (cn : Nat) (en : Nat) (ac : Nat) (cu : Nat) (co : Nat → Nat) (au : Nat → Int) (er : Nat → Nat) (ki : Nat → Nat) (bs : Nat → Int) (x : Int) (qb : Nat → Bool) (hcn : cn ≤ 160) (hac : ac < 65536) (hau : ∀ k, -1 ≤ au k ∧ au k < 16) (her : ∀ k, er k < 65536) (hen : en ≤ 16) (rx : rg x) (hx : x = -1 ∨ (0 ≤ x ∧ x < (en : Int))) (hqb : ∀ k, k < cn → vis (omF au) er ac k → (qb (cnt (visb (omF au) er ac) k) = true ↔ au k = x)) : Met l yX5_run wsX5_run ({ frames := 2, cells := 0, slots := 0, locals := 43 }) (va_Pc [.ref hm, .int (iI (x)), .int (iI 1)] (RO D cI cB cZ cO [(hm, .inr (5, [.ref m1, .ref m2, .ref m3, .int (iI ((pa : Nat) : Int)), .int (iI ((pb : Nat) : Int)), .ref m4, .int (iI ((cp : Nat) : Int)), .ref m5, .int (iI ((ty : Nat) : Int)), .ref m6, .int (iI ((nx : Nat) : Int)), .int (iI (fi)), .int (iI (se)), .int (iI ((le : Nat) : Int)), .ref m7, .int (iI (bp)), .ref m8])), (m1, .inl (cI, 516, .inl (rI (sF cn en ac cu co au er ki bs))))])) (QO (if stp qb (bst qb (cnt (visb (omF au) er ac) cn)) (cnt (visb (omF au) er ac) cn) = 0 then -9 else ((bst qb (cnt (visb (omF au) er ac) cn) : Nat) : Int))) 0 0 (fun _ => False) := by
  refine startO (cc := cX5_run) (maxL := 8) (ret := (some .int)) (by decide) rfl (Nat.le_of_ble_eq_true rfl) ?_
  intro p e s m below meth c S hr hlocks hE hP ls hl
  have hx := S.1
  have hb := S.2.1
  have hown := S.2.2.2.1
  have hts := S.2.2.2.2
  have hK := hE.1
  have hl : lv_has ls 8 [(0, .ref hm), (1, .int (iI (x))), (2, .int (iI 1))] := hl
  have hcl := cnt_le (visb (omF au) er ac) cn
  refine lv_iload_n hx hb dX5_run_0 rfl (lv_at hl 1 rfl) ?_
  refine r_iconst hx hb dX5_run_1 ?_
  refine r_icmp_eq (tgt := 13) hx hb (by first | omega | (rw [← hre9.1]) | (rw [← hre9.2]) | exact hre9.1 | exact hre9.2) (⟨by decide, by decide⟩) dX5_run_2 (by decide) (fun c_1 => ?_) (fun c_1 => ?_)
  · skip
    refine lv_iload_n hx hb dX5_run_13 rfl (lv_at hl 2 rfl) ?_
    refine r_iconst hx hb dX5_run_14 ?_
    refine r_iconst hx hb dX5_run_15 ?_
    rw [show (1 : Int) = (1) from by first | omega | (rw [← hre9.1]) | (rw [← hre9.2]) | exact hre9.1 | exact hre9.2]
    rw [show (0 : Int) = (0) from by first | omega | (rw [← hre9.1]) | (rw [← hre9.2]) | exact hre9.1 | exact hre9.2]
    rw [show (1 : Int) = (1) from by first | omega | (rw [← hre9.1]) | (rw [← hre9.2]) | exact hre9.1 | exact hre9.2]
    refine callSO (n := 3) (As := [.int (iI (1)), .int (iI (0)), .int (iI (1))]) (rest := []) (wc := []) S (m_in l D cI cB cZ cO 1 0 1 (by first | assumption | (first | omega | (rw [← hre9.1]) | (rw [← hre9.2]) | exact hre9.1 | exact hre9.2)) (by first | assumption | (first | omega | (rw [← hre9.1]) | (rw [← hre9.2]) | exact hre9.1 | exact hre9.2)) (by first | assumption | (first | omega | (rw [← hre9.1]) | (rw [← hre9.2]) | exact hre9.1 | exact hre9.2))) gX5_run_X5_in rfl ⟨rfl, rfl⟩ (by decide +kernel) ⟨Nat.le_of_ble_eq_true rfl, Nat.le_of_ble_eq_true rfl⟩ hE hP [] rfl rfl hl.1 rfl (Nat.le_of_ble_eq_true rfl) dX5_run_16 ⟨Nat.le_of_ble_eq_true rfl, Nat.le_of_ble_eq_true rfl⟩ ?_
    refine r_ifb_ne (tgt := 24) hx hb dX5_run_19 (by decide) (fun c_2 => ?_) (fun c_2 => ?_)
    · skip
      refine r_iconst hx hb dX5_run_24 ?_
      refine lv_istore_n (lv' := [(3, .int (iI 0)), (0, .ref hm), (1, .int (iI (x))), (2, .int (iI 1))]) hx hb dX5_run_25 rfl hl (by decide) rfl (fun ls hl => ?_)
      refine r_bipush hx hb dX5_run_26 (by decide) ?_
      refine lv_istore (lv' := [(4, .int (iI (-9))), (3, .int (iI 0)), (0, .ref hm), (1, .int (iI (x))), (2, .int (iI 1))]) hx hb dX5_run_28 hl (by decide) rfl (fun ls hl => ?_)
      refine r_iconst hx hb dX5_run_30 ?_
      refine lv_istore (lv' := [(5, .int (iI 0)), (4, .int (iI (-9))), (3, .int (iI 0)), (0, .ref hm), (1, .int (iI (x))), (2, .int (iI 1))]) hx hb dX5_run_31 hl (by decide) rfl (fun ls hl => ?_)
      refine r_iconst hx hb dX5_run_33 ?_
      refine lv_istore (lv' := [(6, .int (iI 0)), (5, .int (iI 0)), (4, .int (iI (-9))), (3, .int (iI 0)), (0, .ref hm), (1, .int (iI (x))), (2, .int (iI 1))]) hx hb dX5_run_34 hl (by decide) rfl (fun ls hl => ?_)
      refine r_iconst hx hb dX5_run_36 ?_
      refine lv_istore (lv' := [(7, .int (iI 0)), (6, .int (iI 0)), (5, .int (iI 0)), (4, .int (iI (-9))), (3, .int (iI 0)), (0, .ref hm), (1, .int (iI (x))), (2, .int (iI 1))]) hx hb dX5_run_37 hl (by decide) rfl (fun ls hl => ?_)
      have loop_39 : ∀ (n_39 : Nat) (k : Nat) (n9 : Nat) (best : Nat) (fst9 : Int), (cn - k) < n_39 → (k ≤ cn) → (RI qb (cnt (visb (omF au) er ac) k) n9 best fst9) → ∀ (ls : Array Slot), lv_has ls 8 [(0, .ref hm), (1, .int (iI (x))), (2, .int (iI 1)), (3, .int (iI ((best : Nat) : Int))), (4, .int (iI (fst9))), (5, .int (iI ((n9 : Nat) : Int))), (6, .int (iI ((cnt (visb (omF au) er ac) k : Nat) : Int))), (7, .int (iI ((k : Nat) : Int)))] → W p l e ({ frames := 2, cells := 0, slots := 0, locals := 43 }) s m ([.ref hm, .int (iI (x)), .int (iI 1)] : List Value).toArray below meth c s.heap [] 0 0 (MQ below (QO (if stp qb (bst qb (cnt (visb (omF au) er ac) cn)) (cnt (visb (omF au) er ac) cn) = 0 then -9 else ((bst qb (cnt (visb (omF au) er ac) cn) : Nat) : Int))) ([.ref hm, .int (iI (x)), .int (iI 1)] : List Value).toArray s 0 0 (fun _ => False)) (F0 m 39 ls []) := by
        intro n_39
        induction n_39 with
        | zero => intro k n9 best fst9 h_meas; exact absurd h_meas (Nat.not_lt_zero _)
        | succ n_39 ih_39 =>
          intro k n9 best fst9 h_m39 ik ir ls hl
          have hauk := hau k
          have hck := cnt_le (visb (omF au) er ac) k
          have hn9 := ir.1.1
          have hbl : best ≤ cnt (visb (omF au) er ac) k := by obtain ⟨b, _, _, h3, _, _⟩ := ir.2; have := stp_le qb b (cnt (visb (omF au) er ac) k); omega
          have hqk := hqb k
          refine lv_iload hx hb dX5_run_39 (lv_at hl 7 rfl) ?_
          refine lv_aload_n hx hb dX5_run_41 rfl (lv_at hl 0 rfl) ?_
          refine va_get (D := D) (ci := 5) (v := .ref m1) (C := RX5) (T := TX5) (N := 17) hx hb hts nX5_run_X5 hown hK hP 0 rfl rfl 0 (by decide) (hts _ kX5_run_7) (fun _ h9 => h9) rfl dX5_run_42 ?_
          refine r_iconst hx hb dX5_run_45 ?_
          refine r_ialdV (v := ((cn : Nat) : Int)) hx hb hK hP 1 0 rfl rfl (0) (rfl) (by decide) (by decide) (rfl) dX5_run_46 ?_
          refine r_icmp_ge (tgt := 132) hx hb (by first | omega | (rw [← hre9.1]) | (rw [← hre9.2]) | exact hre9.1 | exact hre9.2) (by first | omega | (rw [← hre9.1]) | (rw [← hre9.2]) | exact hre9.1 | exact hre9.2) dX5_run_47 (by decide) (fun c_3 => ?_) (fun c_3 => ?_)
          · skip
            obtain rfl : cn = k := by omega
            have hre9 := RI_e ir
            refine lv_iload_n hx hb dX5_run_132 rfl (lv_at hl 2 rfl) ?_
            refine r_if_ne (tgt := 140) hx hb (⟨by decide, by decide⟩) dX5_run_133 (by decide) (fun c_4 => ?_) (fun c_4 => ?_)
            · skip
              refine lv_iload hx hb dX5_run_140 (lv_at hl 4 rfl) ?_
              exact r_iretO hx hb hr hlocks (by first | omega | (rw [← hre9.1]) | (rw [← hre9.2]) | exact hre9.1 | exact hre9.2) dX5_run_142
            · skip
              exact absurd c_4 (by decide)
          · skip
            refine lv_aload_n hx hb dX5_run_50 rfl (lv_at hl 0 rfl) ?_
            refine lv_iload hx hb dX5_run_51 (lv_at hl 7 rfl) ?_
            refine lv_aload_n hx hb dX5_run_53 rfl (lv_at hl 0 rfl) ?_
            refine va_get (D := D) (ci := 5) (v := .ref m1) (C := RX5) (T := TX5) (N := 17) hx hb hts nX5_run_X5 hown hK hP 0 rfl rfl 0 (by decide) (hts _ kX5_run_7) (fun _ h9 => h9) rfl dX5_run_54 ?_
            refine r_iconst hx hb dX5_run_57 ?_
            refine r_ialdV (v := ((ac : Nat) : Int)) hx hb hK hP 1 0 rfl rfl (2) (rfl) (by decide) (by decide) (rfl) dX5_run_58 ?_
            refine callVO (n := 2) (As := [.int (iI ((k : Nat) : Int)), .int (iI ((ac : Nat) : Int))]) (rest := []) (wc := [(hm, .inr (5, [.ref m1, .ref m2, .ref m3, .int (iI ((pa : Nat) : Int)), .int (iI ((pb : Nat) : Int)), .ref m4, .int (iI ((cp : Nat) : Int)), .ref m5, .int (iI ((ty : Nat) : Int)), .ref m6, .int (iI ((nx : Nat) : Int)), .int (iI (fi)), .int (iI (se)), .int (iI ((le : Nat) : Int)), .ref m7, .int (iI (bp)), .ref m8])), (m1, .inl (cI, 516, .inl (rI (sF cn en ac cu co au er ki bs))))]) S (m_isVisible l D cI cB cZ cO hm m1 m2 m3 m4 m5 m6 m7 m8 pa pb cp ty nx fi se le bp cn en ac cu co au er ki bs k ac (by first | assumption | (first | omega | (rw [← hre9.1]) | (rw [← hre9.2]) | exact hre9.1 | exact hre9.2)) (by first | assumption | (first | omega | (rw [← hre9.1]) | (rw [← hre9.2]) | exact hre9.1 | exact hre9.2)) (by first | assumption | (first | omega | (rw [← hre9.1]) | (rw [← hre9.2]) | exact hre9.1 | exact hre9.2)) (by first | assumption | (first | omega | (rw [← hre9.1]) | (rw [← hre9.2]) | exact hre9.1 | exact hre9.2))) gX5_run_X5_isVisible rfl ⟨rfl, rfl⟩ (by decide +kernel) ⟨Nat.le_of_ble_eq_true rfl, Nat.le_of_ble_eq_true rfl⟩ hE hP [0, 1] rfl 5 0 rfl rfl rfl hl.1 rfl (Nat.le_of_ble_eq_true rfl) dX5_run_59 ⟨Nat.le_of_ble_eq_true rfl, Nat.le_of_ble_eq_true rfl⟩ ?_
            refine r_ifb_eq (tgt := 126) hx hb dX5_run_62 (by decide) (fun c_5 => ?_) (fun c_5 => ?_)
            · skip
              refine lv_iinc (v := iI ((k + 1 : Nat) : Int)) (lv' := [(7, .int (iI ((k + 1 : Nat) : Int))), (0, .ref hm), (1, .int (iI (x))), (2, .int (iI 1)), (3, .int (iI ((best : Nat) : Int))), (4, .int (iI (fst9))), (5, .int (iI ((n9 : Nat) : Int))), (6, .int (iI ((cnt (visb (omF au) er ac) k : Nat) : Int)))]) hx hb dX5_run_126 hl (k := 7) rfl ((iI_add _ _).trans (ii (rfl))) (by decide) rfl (fun ls hl => ?_)
              refine lv_goto (tgt := 39) hx hb dX5_run_129 (by decide) ?_
              have hl : lv_has ls 8 [(7, .int (iI ((k + 1 : Nat) : Int))), (0, .ref hm), (1, .int (iI (x))), (2, .int (iI 1)), (3, .int (iI ((best : Nat) : Int))), (4, .int (iI (fst9))), (5, .int (iI ((n9 : Nat) : Int))), (6, .int (iI ((cnt (visb (omF au) er ac) (k + 1) : Nat) : Int)))] := lv_chg hl 7 6 rfl (show (((cnt (visb (omF au) er ac) k : Nat) : Int) : Int) = ((cnt (visb (omF au) er ac) (k + 1) : Nat) : Int) from by first | (rw [cnt_vt (by assumption)]) | (rw [cnt_vf (by assumption)])) rfl
              exact ih_39 (k + 1) n9 best fst9 (by first | omega | (rw [← hre9.1]) | (rw [← hre9.2]) | exact hre9.1 | exact hre9.2) (by first | assumption | (first | omega | (rw [← hre9.1]) | (rw [← hre9.2]) | exact hre9.1 | exact hre9.2)) (by first | (rw [cnt_vf (by assumption)]; assumption) | (rw [cnt_vt (by assumption)]; have h9 := hqk (by omega) (by assumption); first | exact RI_f ir (fun z => absurd (h9.mp z) (by omega)) | exact RI_n ir (h9.mpr (by omega)) (by omega) | exact RI_k ir (h9.mpr (by omega)) (by omega)) | (exfalso; omega)) ls (lv_sub hl [1, 2, 3, 4, 5, 6, 7, 0] rfl)
            · skip
              refine lv_aload_n hx hb dX5_run_65 rfl (lv_at hl 0 rfl) ?_
              refine va_get (D := D) (ci := 5) (v := .ref m1) (C := RX5) (T := TX5) (N := 17) hx hb hts nX5_run_X5 hown hK hP 0 rfl rfl 0 (by decide) (hts _ kX5_run_7) (fun _ h9 => h9) rfl dX5_run_66 ?_
              refine r_sipush hx hb dX5_run_69 (by decide) ?_
              refine lv_iload hx hb dX5_run_72 (lv_at hl 7 rfl) ?_
              refine r_iadd (v := ((164 + k : Nat) : Int)) hx hb (rfl) dX5_run_74 ?_
              refine r_ialdV (v := (au k)) hx hb hK hP 1 0 rfl rfl (164 + k) (rfl) (by first | omega | (rw [← hre9.1]) | (rw [← hre9.2]) | exact hre9.1 | exact hre9.2) (by decide) (sF_au (by first | omega | (rw [← hre9.1]) | (rw [← hre9.2]) | exact hre9.1 | exact hre9.2)) dX5_run_75 ?_
              refine lv_iload_n hx hb dX5_run_76 rfl (lv_at hl 1 rfl) ?_
              refine r_icmp_ne (tgt := 87) hx hb (by first | omega | (rw [← hre9.1]) | (rw [← hre9.2]) | exact hre9.1 | exact hre9.2) (by first | omega | (rw [← hre9.1]) | (rw [← hre9.2]) | exact hre9.1 | exact hre9.2) dX5_run_77 (by decide) (fun c_6 => ?_) (fun c_6 => ?_)
              · skip
                refine r_iconst hx hb dX5_run_87 ?_
                refine lv_istore (lv' := [(5, .int (iI 0)), (0, .ref hm), (1, .int (iI (x))), (2, .int (iI 1)), (3, .int (iI ((best : Nat) : Int))), (4, .int (iI (fst9))), (6, .int (iI ((cnt (visb (omF au) er ac) k : Nat) : Int))), (7, .int (iI ((k : Nat) : Int)))]) hx hb dX5_run_88 hl (by decide) rfl (fun ls hl => ?_)
                refine lv_iload hx hb dX5_run_90 (lv_at hl 0 rfl) ?_
                refine lv_iload_n hx hb dX5_run_92 rfl (lv_at hl 4 rfl) ?_
                refine r_icmp_le (tgt := 106) hx hb (⟨by decide, by decide⟩) (by first | omega | (rw [← hre9.1]) | (rw [← hre9.2]) | exact hre9.1 | exact hre9.2) dX5_run_93 (by decide) (fun c_7 => ?_) (fun c_7 => ?_)
                · skip
                  refine lv_iload hx hb dX5_run_106 (lv_at hl 5 rfl) ?_
                  refine lv_istore (lv' := [(4, .int (iI (fst9))), (5, .int (iI 0)), (0, .ref hm), (1, .int (iI (x))), (2, .int (iI 1)), (3, .int (iI ((best : Nat) : Int))), (6, .int (iI ((cnt (visb (omF au) er ac) k : Nat) : Int))), (7, .int (iI ((k : Nat) : Int)))]) hx hb dX5_run_108 hl (by decide) rfl (fun ls hl => ?_)
                  refine lv_iload hx hb dX5_run_110 (lv_at hl 1 rfl) ?_
                  refine lv_iload_n hx hb dX5_run_112 rfl (lv_at hl 5 rfl) ?_
                  refine r_icmp_le (tgt := 121) hx hb (⟨by decide, by decide⟩) (by first | omega | (rw [← hre9.1]) | (rw [← hre9.2]) | exact hre9.1 | exact hre9.2) dX5_run_113 (by decide) (fun c_8 => ?_) (fun c_8 => ?_)
                  · skip
                    refine lv_iload_n hx hb dX5_run_121 rfl (lv_at hl 5 rfl) ?_
                    refine lv_istore_n (lv' := [(3, .int (iI ((best : Nat) : Int))), (4, .int (iI (fst9))), (5, .int (iI 0)), (0, .ref hm), (1, .int (iI (x))), (2, .int (iI 1)), (6, .int (iI ((cnt (visb (omF au) er ac) k : Nat) : Int))), (7, .int (iI ((k : Nat) : Int)))]) hx hb dX5_run_122 rfl hl (by decide) rfl (fun ls hl => ?_)
                    refine lv_iinc (v := iI (((cnt (visb (omF au) er ac) k) + 1 : Nat) : Int)) (lv' := [(6, .int (iI (((cnt (visb (omF au) er ac) k) + 1 : Nat) : Int))), (3, .int (iI ((best : Nat) : Int))), (4, .int (iI (fst9))), (5, .int (iI 0)), (0, .ref hm), (1, .int (iI (x))), (2, .int (iI 1)), (7, .int (iI ((k : Nat) : Int)))]) hx hb dX5_run_123 hl (k := 6) rfl ((iI_add _ _).trans (ii (rfl))) (by decide) rfl (fun ls hl => ?_)
                    refine lv_iinc (v := iI ((k + 1 : Nat) : Int)) (lv' := [(7, .int (iI ((k + 1 : Nat) : Int))), (6, .int (iI (((cnt (visb (omF au) er ac) k) + 1 : Nat) : Int))), (3, .int (iI ((best : Nat) : Int))), (4, .int (iI (fst9))), (5, .int (iI 0)), (0, .ref hm), (1, .int (iI (x))), (2, .int (iI 1))]) hx hb dX5_run_126 hl (k := 7) rfl ((iI_add _ _).trans (ii (rfl))) (by decide) rfl (fun ls hl => ?_)
                    refine lv_goto (tgt := 39) hx hb dX5_run_129 (by decide) ?_
                    have hl : lv_has ls 8 [(7, .int (iI ((k + 1 : Nat) : Int))), (6, .int (iI ((cnt (visb (omF au) er ac) (k + 1) : Nat) : Int))), (3, .int (iI ((best : Nat) : Int))), (4, .int (iI (fst9))), (5, .int (iI 0)), (0, .ref hm), (1, .int (iI (x))), (2, .int (iI 1))] := lv_chg hl 1 6 rfl (show ((((cnt (visb (omF au) er ac) k) + 1 : Nat) : Int) : Int) = ((cnt (visb (omF au) er ac) (k + 1) : Nat) : Int) from by first | (rw [cnt_vt (by assumption)]) | (rw [cnt_vf (by assumption)])) rfl
                    exact ih_39 (k + 1) 0 best fst9 (by first | omega | (rw [← hre9.1]) | (rw [← hre9.2]) | exact hre9.1 | exact hre9.2) (by first | assumption | (first | omega | (rw [← hre9.1]) | (rw [← hre9.2]) | exact hre9.1 | exact hre9.2)) (by first | (rw [cnt_vf (by assumption)]; assumption) | (rw [cnt_vt (by assumption)]; have h9 := hqk (by omega) (by assumption); first | exact RI_f ir (fun z => absurd (h9.mp z) (by omega)) | exact RI_n ir (h9.mpr (by omega)) (by omega) | exact RI_k ir (h9.mpr (by omega)) (by omega)) | (exfalso; omega)) ls (lv_sub hl [5, 6, 7, 2, 3, 4, 1, 0] rfl)
                  · skip
                    refine lv_iload hx hb dX5_run_116 (lv_at hl 1 rfl) ?_
                    refine lv_goto (tgt := 122) hx hb dX5_run_118 (by decide) ?_
                    refine lv_istore_n (lv' := [(3, .int (iI 0)), (4, .int (iI (fst9))), (5, .int (iI 0)), (0, .ref hm), (1, .int (iI (x))), (2, .int (iI 1)), (6, .int (iI ((cnt (visb (omF au) er ac) k : Nat) : Int))), (7, .int (iI ((k : Nat) : Int)))]) hx hb dX5_run_122 rfl hl (by decide) rfl (fun ls hl => ?_)
                    refine lv_iinc (v := iI (((cnt (visb (omF au) er ac) k) + 1 : Nat) : Int)) (lv' := [(6, .int (iI (((cnt (visb (omF au) er ac) k) + 1 : Nat) : Int))), (3, .int (iI 0)), (4, .int (iI (fst9))), (5, .int (iI 0)), (0, .ref hm), (1, .int (iI (x))), (2, .int (iI 1)), (7, .int (iI ((k : Nat) : Int)))]) hx hb dX5_run_123 hl (k := 6) rfl ((iI_add _ _).trans (ii (rfl))) (by decide) rfl (fun ls hl => ?_)
                    refine lv_iinc (v := iI ((k + 1 : Nat) : Int)) (lv' := [(7, .int (iI ((k + 1 : Nat) : Int))), (6, .int (iI (((cnt (visb (omF au) er ac) k) + 1 : Nat) : Int))), (3, .int (iI 0)), (4, .int (iI (fst9))), (5, .int (iI 0)), (0, .ref hm), (1, .int (iI (x))), (2, .int (iI 1))]) hx hb dX5_run_126 hl (k := 7) rfl ((iI_add _ _).trans (ii (rfl))) (by decide) rfl (fun ls hl => ?_)
                    refine lv_goto (tgt := 39) hx hb dX5_run_129 (by decide) ?_
                    have hl : lv_has ls 8 [(7, .int (iI ((k + 1 : Nat) : Int))), (6, .int (iI ((cnt (visb (omF au) er ac) (k + 1) : Nat) : Int))), (3, .int (iI 0)), (4, .int (iI (fst9))), (5, .int (iI 0)), (0, .ref hm), (1, .int (iI (x))), (2, .int (iI 1))] := lv_chg hl 1 6 rfl (show ((((cnt (visb (omF au) er ac) k) + 1 : Nat) : Int) : Int) = ((cnt (visb (omF au) er ac) (k + 1) : Nat) : Int) from by first | (rw [cnt_vt (by assumption)]) | (rw [cnt_vf (by assumption)])) rfl
                    exact ih_39 (k + 1) 0 0 fst9 (by first | omega | (rw [← hre9.1]) | (rw [← hre9.2]) | exact hre9.1 | exact hre9.2) (by first | assumption | (first | omega | (rw [← hre9.1]) | (rw [← hre9.2]) | exact hre9.1 | exact hre9.2)) (by first | (rw [cnt_vf (by assumption)]; assumption) | (rw [cnt_vt (by assumption)]; have h9 := hqk (by omega) (by assumption); first | exact RI_f ir (fun z => absurd (h9.mp z) (by omega)) | exact RI_n ir (h9.mpr (by omega)) (by omega) | exact RI_k ir (h9.mpr (by omega)) (by omega)) | (exfalso; omega)) ls (lv_sub hl [5, 6, 7, 2, 3, 4, 1, 0] rfl)
                · skip
                  refine lv_iload hx hb dX5_run_96 (lv_at hl 6 rfl) ?_
                  refine lv_iload hx hb dX5_run_98 (lv_at hl 0 rfl) ?_
                  refine r_isub (v := (((cnt (visb (omF au) er ac) k : Nat) : Int) - 0)) hx hb (rfl) dX5_run_100 ?_
                  refine r_iconst hx hb dX5_run_101 ?_
                  refine r_iadd (v := ((((cnt (visb (omF au) er ac) k : Nat) : Int) - 0) + 1)) hx hb (rfl) dX5_run_102 ?_
                  refine lv_goto (tgt := 108) hx hb dX5_run_103 (by decide) ?_
                  refine lv_istore (lv' := [(4, .int (iI ((((cnt (visb (omF au) er ac) k : Nat) : Int) - 0) + 1))), (5, .int (iI 0)), (0, .ref hm), (1, .int (iI (x))), (2, .int (iI 1)), (3, .int (iI ((best : Nat) : Int))), (6, .int (iI ((cnt (visb (omF au) er ac) k : Nat) : Int))), (7, .int (iI ((k : Nat) : Int)))]) hx hb dX5_run_108 hl (by decide) rfl (fun ls hl => ?_)
                  refine lv_iload hx hb dX5_run_110 (lv_at hl 1 rfl) ?_
                  refine lv_iload_n hx hb dX5_run_112 rfl (lv_at hl 5 rfl) ?_
                  refine r_icmp_le (tgt := 121) hx hb (⟨by decide, by decide⟩) (by first | omega | (rw [← hre9.1]) | (rw [← hre9.2]) | exact hre9.1 | exact hre9.2) dX5_run_113 (by decide) (fun c_9 => ?_) (fun c_9 => ?_)
                  · skip
                    refine lv_iload_n hx hb dX5_run_121 rfl (lv_at hl 5 rfl) ?_
                    refine lv_istore_n (lv' := [(3, .int (iI ((best : Nat) : Int))), (4, .int (iI ((((cnt (visb (omF au) er ac) k : Nat) : Int) - 0) + 1))), (5, .int (iI 0)), (0, .ref hm), (1, .int (iI (x))), (2, .int (iI 1)), (6, .int (iI ((cnt (visb (omF au) er ac) k : Nat) : Int))), (7, .int (iI ((k : Nat) : Int)))]) hx hb dX5_run_122 rfl hl (by decide) rfl (fun ls hl => ?_)
                    refine lv_iinc (v := iI (((cnt (visb (omF au) er ac) k) + 1 : Nat) : Int)) (lv' := [(6, .int (iI (((cnt (visb (omF au) er ac) k) + 1 : Nat) : Int))), (3, .int (iI ((best : Nat) : Int))), (4, .int (iI ((((cnt (visb (omF au) er ac) k : Nat) : Int) - 0) + 1))), (5, .int (iI 0)), (0, .ref hm), (1, .int (iI (x))), (2, .int (iI 1)), (7, .int (iI ((k : Nat) : Int)))]) hx hb dX5_run_123 hl (k := 6) rfl ((iI_add _ _).trans (ii (rfl))) (by decide) rfl (fun ls hl => ?_)
                    refine lv_iinc (v := iI ((k + 1 : Nat) : Int)) (lv' := [(7, .int (iI ((k + 1 : Nat) : Int))), (6, .int (iI (((cnt (visb (omF au) er ac) k) + 1 : Nat) : Int))), (3, .int (iI ((best : Nat) : Int))), (4, .int (iI ((((cnt (visb (omF au) er ac) k : Nat) : Int) - 0) + 1))), (5, .int (iI 0)), (0, .ref hm), (1, .int (iI (x))), (2, .int (iI 1))]) hx hb dX5_run_126 hl (k := 7) rfl ((iI_add _ _).trans (ii (rfl))) (by decide) rfl (fun ls hl => ?_)
                    refine lv_goto (tgt := 39) hx hb dX5_run_129 (by decide) ?_
                    have hl : lv_has ls 8 [(7, .int (iI ((k + 1 : Nat) : Int))), (6, .int (iI ((cnt (visb (omF au) er ac) (k + 1) : Nat) : Int))), (3, .int (iI ((best : Nat) : Int))), (4, .int (iI ((((cnt (visb (omF au) er ac) k : Nat) : Int) - 0) + 1))), (5, .int (iI 0)), (0, .ref hm), (1, .int (iI (x))), (2, .int (iI 1))] := lv_chg hl 1 6 rfl (show ((((cnt (visb (omF au) er ac) k) + 1 : Nat) : Int) : Int) = ((cnt (visb (omF au) er ac) (k + 1) : Nat) : Int) from by first | (rw [cnt_vt (by assumption)]) | (rw [cnt_vf (by assumption)])) rfl
                    exact ih_39 (k + 1) 0 best ((((cnt (visb (omF au) er ac) k : Nat) : Int) - 0) + 1) (by first | omega | (rw [← hre9.1]) | (rw [← hre9.2]) | exact hre9.1 | exact hre9.2) (by first | assumption | (first | omega | (rw [← hre9.1]) | (rw [← hre9.2]) | exact hre9.1 | exact hre9.2)) (by first | (rw [cnt_vf (by assumption)]; assumption) | (rw [cnt_vt (by assumption)]; have h9 := hqk (by omega) (by assumption); first | exact RI_f ir (fun z => absurd (h9.mp z) (by omega)) | exact RI_n ir (h9.mpr (by omega)) (by omega) | exact RI_k ir (h9.mpr (by omega)) (by omega)) | (exfalso; omega)) ls (lv_sub hl [5, 6, 7, 2, 3, 4, 1, 0] rfl)
                  · skip
                    refine lv_iload hx hb dX5_run_116 (lv_at hl 1 rfl) ?_
                    refine lv_goto (tgt := 122) hx hb dX5_run_118 (by decide) ?_
                    refine lv_istore_n (lv' := [(3, .int (iI 0)), (4, .int (iI ((((cnt (visb (omF au) er ac) k : Nat) : Int) - 0) + 1))), (5, .int (iI 0)), (0, .ref hm), (1, .int (iI (x))), (2, .int (iI 1)), (6, .int (iI ((cnt (visb (omF au) er ac) k : Nat) : Int))), (7, .int (iI ((k : Nat) : Int)))]) hx hb dX5_run_122 rfl hl (by decide) rfl (fun ls hl => ?_)
                    refine lv_iinc (v := iI (((cnt (visb (omF au) er ac) k) + 1 : Nat) : Int)) (lv' := [(6, .int (iI (((cnt (visb (omF au) er ac) k) + 1 : Nat) : Int))), (3, .int (iI 0)), (4, .int (iI ((((cnt (visb (omF au) er ac) k : Nat) : Int) - 0) + 1))), (5, .int (iI 0)), (0, .ref hm), (1, .int (iI (x))), (2, .int (iI 1)), (7, .int (iI ((k : Nat) : Int)))]) hx hb dX5_run_123 hl (k := 6) rfl ((iI_add _ _).trans (ii (rfl))) (by decide) rfl (fun ls hl => ?_)
                    refine lv_iinc (v := iI ((k + 1 : Nat) : Int)) (lv' := [(7, .int (iI ((k + 1 : Nat) : Int))), (6, .int (iI (((cnt (visb (omF au) er ac) k) + 1 : Nat) : Int))), (3, .int (iI 0)), (4, .int (iI ((((cnt (visb (omF au) er ac) k : Nat) : Int) - 0) + 1))), (5, .int (iI 0)), (0, .ref hm), (1, .int (iI (x))), (2, .int (iI 1))]) hx hb dX5_run_126 hl (k := 7) rfl ((iI_add _ _).trans (ii (rfl))) (by decide) rfl (fun ls hl => ?_)
                    refine lv_goto (tgt := 39) hx hb dX5_run_129 (by decide) ?_
                    have hl : lv_has ls 8 [(7, .int (iI ((k + 1 : Nat) : Int))), (6, .int (iI ((cnt (visb (omF au) er ac) (k + 1) : Nat) : Int))), (3, .int (iI 0)), (4, .int (iI ((((cnt (visb (omF au) er ac) k : Nat) : Int) - 0) + 1))), (5, .int (iI 0)), (0, .ref hm), (1, .int (iI (x))), (2, .int (iI 1))] := lv_chg hl 1 6 rfl (show ((((cnt (visb (omF au) er ac) k) + 1 : Nat) : Int) : Int) = ((cnt (visb (omF au) er ac) (k + 1) : Nat) : Int) from by first | (rw [cnt_vt (by assumption)]) | (rw [cnt_vf (by assumption)])) rfl
                    exact ih_39 (k + 1) 0 0 ((((cnt (visb (omF au) er ac) k : Nat) : Int) - 0) + 1) (by first | omega | (rw [← hre9.1]) | (rw [← hre9.2]) | exact hre9.1 | exact hre9.2) (by first | assumption | (first | omega | (rw [← hre9.1]) | (rw [← hre9.2]) | exact hre9.1 | exact hre9.2)) (by first | (rw [cnt_vf (by assumption)]; assumption) | (rw [cnt_vt (by assumption)]; have h9 := hqk (by omega) (by assumption); first | exact RI_f ir (fun z => absurd (h9.mp z) (by omega)) | exact RI_n ir (h9.mpr (by omega)) (by omega) | exact RI_k ir (h9.mpr (by omega)) (by omega)) | (exfalso; omega)) ls (lv_sub hl [5, 6, 7, 2, 3, 4, 1, 0] rfl)
              · skip
                refine lv_iload hx hb dX5_run_80 (lv_at hl 5 rfl) ?_
                refine r_iconst hx hb dX5_run_82 ?_
                refine r_iadd (v := ((n9 + 1 : Nat) : Int)) hx hb (rfl) dX5_run_83 ?_
                refine lv_goto (tgt := 88) hx hb dX5_run_84 (by decide) ?_
                refine lv_istore (lv' := [(5, .int (iI ((n9 + 1 : Nat) : Int))), (0, .ref hm), (1, .int (iI (x))), (2, .int (iI 1)), (3, .int (iI ((best : Nat) : Int))), (4, .int (iI (fst9))), (6, .int (iI ((cnt (visb (omF au) er ac) k : Nat) : Int))), (7, .int (iI ((k : Nat) : Int)))]) hx hb dX5_run_88 hl (by decide) rfl (fun ls hl => ?_)
                refine lv_iload hx hb dX5_run_90 (lv_at hl 0 rfl) ?_
                refine lv_iload_n hx hb dX5_run_92 rfl (lv_at hl 4 rfl) ?_
                refine r_icmp_le (tgt := 106) hx hb (by first | omega | (rw [← hre9.1]) | (rw [← hre9.2]) | exact hre9.1 | exact hre9.2) (by first | omega | (rw [← hre9.1]) | (rw [← hre9.2]) | exact hre9.1 | exact hre9.2) dX5_run_93 (by decide) (fun c_10 => ?_) (fun c_10 => ?_)
                · skip
                  refine lv_iload hx hb dX5_run_106 (lv_at hl 5 rfl) ?_
                  refine lv_istore (lv' := [(4, .int (iI (fst9))), (5, .int (iI ((n9 + 1 : Nat) : Int))), (0, .ref hm), (1, .int (iI (x))), (2, .int (iI 1)), (3, .int (iI ((best : Nat) : Int))), (6, .int (iI ((cnt (visb (omF au) er ac) k : Nat) : Int))), (7, .int (iI ((k : Nat) : Int)))]) hx hb dX5_run_108 hl (by decide) rfl (fun ls hl => ?_)
                  refine lv_iload hx hb dX5_run_110 (lv_at hl 1 rfl) ?_
                  refine lv_iload_n hx hb dX5_run_112 rfl (lv_at hl 5 rfl) ?_
                  refine r_icmp_le (tgt := 121) hx hb (by first | omega | (rw [← hre9.1]) | (rw [← hre9.2]) | exact hre9.1 | exact hre9.2) (by first | omega | (rw [← hre9.1]) | (rw [← hre9.2]) | exact hre9.1 | exact hre9.2) dX5_run_113 (by decide) (fun c_11 => ?_) (fun c_11 => ?_)
                  · skip
                    refine lv_iload_n hx hb dX5_run_121 rfl (lv_at hl 5 rfl) ?_
                    refine lv_istore_n (lv' := [(3, .int (iI ((best : Nat) : Int))), (4, .int (iI (fst9))), (5, .int (iI ((n9 + 1 : Nat) : Int))), (0, .ref hm), (1, .int (iI (x))), (2, .int (iI 1)), (6, .int (iI ((cnt (visb (omF au) er ac) k : Nat) : Int))), (7, .int (iI ((k : Nat) : Int)))]) hx hb dX5_run_122 rfl hl (by decide) rfl (fun ls hl => ?_)
                    refine lv_iinc (v := iI (((cnt (visb (omF au) er ac) k) + 1 : Nat) : Int)) (lv' := [(6, .int (iI (((cnt (visb (omF au) er ac) k) + 1 : Nat) : Int))), (3, .int (iI ((best : Nat) : Int))), (4, .int (iI (fst9))), (5, .int (iI ((n9 + 1 : Nat) : Int))), (0, .ref hm), (1, .int (iI (x))), (2, .int (iI 1)), (7, .int (iI ((k : Nat) : Int)))]) hx hb dX5_run_123 hl (k := 6) rfl ((iI_add _ _).trans (ii (rfl))) (by decide) rfl (fun ls hl => ?_)
                    refine lv_iinc (v := iI ((k + 1 : Nat) : Int)) (lv' := [(7, .int (iI ((k + 1 : Nat) : Int))), (6, .int (iI (((cnt (visb (omF au) er ac) k) + 1 : Nat) : Int))), (3, .int (iI ((best : Nat) : Int))), (4, .int (iI (fst9))), (5, .int (iI ((n9 + 1 : Nat) : Int))), (0, .ref hm), (1, .int (iI (x))), (2, .int (iI 1))]) hx hb dX5_run_126 hl (k := 7) rfl ((iI_add _ _).trans (ii (rfl))) (by decide) rfl (fun ls hl => ?_)
                    refine lv_goto (tgt := 39) hx hb dX5_run_129 (by decide) ?_
                    have hl : lv_has ls 8 [(7, .int (iI ((k + 1 : Nat) : Int))), (6, .int (iI ((cnt (visb (omF au) er ac) (k + 1) : Nat) : Int))), (3, .int (iI ((best : Nat) : Int))), (4, .int (iI (fst9))), (5, .int (iI ((n9 + 1 : Nat) : Int))), (0, .ref hm), (1, .int (iI (x))), (2, .int (iI 1))] := lv_chg hl 1 6 rfl (show ((((cnt (visb (omF au) er ac) k) + 1 : Nat) : Int) : Int) = ((cnt (visb (omF au) er ac) (k + 1) : Nat) : Int) from by first | (rw [cnt_vt (by assumption)]) | (rw [cnt_vf (by assumption)])) rfl
                    exact ih_39 (k + 1) (n9 + 1) best fst9 (by first | omega | (rw [← hre9.1]) | (rw [← hre9.2]) | exact hre9.1 | exact hre9.2) (by first | assumption | (first | omega | (rw [← hre9.1]) | (rw [← hre9.2]) | exact hre9.1 | exact hre9.2)) (by first | (rw [cnt_vf (by assumption)]; assumption) | (rw [cnt_vt (by assumption)]; have h9 := hqk (by omega) (by assumption); first | exact RI_f ir (fun z => absurd (h9.mp z) (by omega)) | exact RI_n ir (h9.mpr (by omega)) (by omega) | exact RI_k ir (h9.mpr (by omega)) (by omega)) | (exfalso; omega)) ls (lv_sub hl [5, 6, 7, 2, 3, 4, 1, 0] rfl)
                  · skip
                    refine lv_iload hx hb dX5_run_116 (lv_at hl 1 rfl) ?_
                    refine lv_goto (tgt := 122) hx hb dX5_run_118 (by decide) ?_
                    refine lv_istore_n (lv' := [(3, .int (iI ((n9 + 1 : Nat) : Int))), (4, .int (iI (fst9))), (5, .int (iI ((n9 + 1 : Nat) : Int))), (0, .ref hm), (1, .int (iI (x))), (2, .int (iI 1)), (6, .int (iI ((cnt (visb (omF au) er ac) k : Nat) : Int))), (7, .int (iI ((k : Nat) : Int)))]) hx hb dX5_run_122 rfl hl (by decide) rfl (fun ls hl => ?_)
                    refine lv_iinc (v := iI (((cnt (visb (omF au) er ac) k) + 1 : Nat) : Int)) (lv' := [(6, .int (iI (((cnt (visb (omF au) er ac) k) + 1 : Nat) : Int))), (3, .int (iI ((n9 + 1 : Nat) : Int))), (4, .int (iI (fst9))), (5, .int (iI ((n9 + 1 : Nat) : Int))), (0, .ref hm), (1, .int (iI (x))), (2, .int (iI 1)), (7, .int (iI ((k : Nat) : Int)))]) hx hb dX5_run_123 hl (k := 6) rfl ((iI_add _ _).trans (ii (rfl))) (by decide) rfl (fun ls hl => ?_)
                    refine lv_iinc (v := iI ((k + 1 : Nat) : Int)) (lv' := [(7, .int (iI ((k + 1 : Nat) : Int))), (6, .int (iI (((cnt (visb (omF au) er ac) k) + 1 : Nat) : Int))), (3, .int (iI ((n9 + 1 : Nat) : Int))), (4, .int (iI (fst9))), (5, .int (iI ((n9 + 1 : Nat) : Int))), (0, .ref hm), (1, .int (iI (x))), (2, .int (iI 1))]) hx hb dX5_run_126 hl (k := 7) rfl ((iI_add _ _).trans (ii (rfl))) (by decide) rfl (fun ls hl => ?_)
                    refine lv_goto (tgt := 39) hx hb dX5_run_129 (by decide) ?_
                    have hl : lv_has ls 8 [(7, .int (iI ((k + 1 : Nat) : Int))), (6, .int (iI ((cnt (visb (omF au) er ac) (k + 1) : Nat) : Int))), (3, .int (iI ((n9 + 1 : Nat) : Int))), (4, .int (iI (fst9))), (5, .int (iI ((n9 + 1 : Nat) : Int))), (0, .ref hm), (1, .int (iI (x))), (2, .int (iI 1))] := lv_chg hl 1 6 rfl (show ((((cnt (visb (omF au) er ac) k) + 1 : Nat) : Int) : Int) = ((cnt (visb (omF au) er ac) (k + 1) : Nat) : Int) from by first | (rw [cnt_vt (by assumption)]) | (rw [cnt_vf (by assumption)])) rfl
                    exact ih_39 (k + 1) (n9 + 1) (n9 + 1) fst9 (by first | omega | (rw [← hre9.1]) | (rw [← hre9.2]) | exact hre9.1 | exact hre9.2) (by first | assumption | (first | omega | (rw [← hre9.1]) | (rw [← hre9.2]) | exact hre9.1 | exact hre9.2)) (by first | (rw [cnt_vf (by assumption)]; assumption) | (rw [cnt_vt (by assumption)]; have h9 := hqk (by omega) (by assumption); first | exact RI_f ir (fun z => absurd (h9.mp z) (by omega)) | exact RI_n ir (h9.mpr (by omega)) (by omega) | exact RI_k ir (h9.mpr (by omega)) (by omega)) | (exfalso; omega)) ls (lv_sub hl [5, 6, 7, 2, 3, 4, 1, 0] rfl)
                · skip
                  refine lv_iload hx hb dX5_run_96 (lv_at hl 6 rfl) ?_
                  refine lv_iload hx hb dX5_run_98 (lv_at hl 0 rfl) ?_
                  refine r_isub (v := (((cnt (visb (omF au) er ac) k : Nat) : Int) - ((n9 + 1 : Nat) : Int))) hx hb (rfl) dX5_run_100 ?_
                  refine r_iconst hx hb dX5_run_101 ?_
                  refine r_iadd (v := ((((cnt (visb (omF au) er ac) k : Nat) : Int) - ((n9 + 1 : Nat) : Int)) + 1)) hx hb (rfl) dX5_run_102 ?_
                  refine lv_goto (tgt := 108) hx hb dX5_run_103 (by decide) ?_
                  refine lv_istore (lv' := [(4, .int (iI ((((cnt (visb (omF au) er ac) k : Nat) : Int) - ((n9 + 1 : Nat) : Int)) + 1))), (5, .int (iI ((n9 + 1 : Nat) : Int))), (0, .ref hm), (1, .int (iI (x))), (2, .int (iI 1)), (3, .int (iI ((best : Nat) : Int))), (6, .int (iI ((cnt (visb (omF au) er ac) k : Nat) : Int))), (7, .int (iI ((k : Nat) : Int)))]) hx hb dX5_run_108 hl (by decide) rfl (fun ls hl => ?_)
                  refine lv_iload hx hb dX5_run_110 (lv_at hl 1 rfl) ?_
                  refine lv_iload_n hx hb dX5_run_112 rfl (lv_at hl 5 rfl) ?_
                  refine r_icmp_le (tgt := 121) hx hb (by first | omega | (rw [← hre9.1]) | (rw [← hre9.2]) | exact hre9.1 | exact hre9.2) (by first | omega | (rw [← hre9.1]) | (rw [← hre9.2]) | exact hre9.1 | exact hre9.2) dX5_run_113 (by decide) (fun c_12 => ?_) (fun c_12 => ?_)
                  · skip
                    refine lv_iload_n hx hb dX5_run_121 rfl (lv_at hl 5 rfl) ?_
                    refine lv_istore_n (lv' := [(3, .int (iI ((best : Nat) : Int))), (4, .int (iI ((((cnt (visb (omF au) er ac) k : Nat) : Int) - ((n9 + 1 : Nat) : Int)) + 1))), (5, .int (iI ((n9 + 1 : Nat) : Int))), (0, .ref hm), (1, .int (iI (x))), (2, .int (iI 1)), (6, .int (iI ((cnt (visb (omF au) er ac) k : Nat) : Int))), (7, .int (iI ((k : Nat) : Int)))]) hx hb dX5_run_122 rfl hl (by decide) rfl (fun ls hl => ?_)
                    refine lv_iinc (v := iI (((cnt (visb (omF au) er ac) k) + 1 : Nat) : Int)) (lv' := [(6, .int (iI (((cnt (visb (omF au) er ac) k) + 1 : Nat) : Int))), (3, .int (iI ((best : Nat) : Int))), (4, .int (iI ((((cnt (visb (omF au) er ac) k : Nat) : Int) - ((n9 + 1 : Nat) : Int)) + 1))), (5, .int (iI ((n9 + 1 : Nat) : Int))), (0, .ref hm), (1, .int (iI (x))), (2, .int (iI 1)), (7, .int (iI ((k : Nat) : Int)))]) hx hb dX5_run_123 hl (k := 6) rfl ((iI_add _ _).trans (ii (rfl))) (by decide) rfl (fun ls hl => ?_)
                    refine lv_iinc (v := iI ((k + 1 : Nat) : Int)) (lv' := [(7, .int (iI ((k + 1 : Nat) : Int))), (6, .int (iI (((cnt (visb (omF au) er ac) k) + 1 : Nat) : Int))), (3, .int (iI ((best : Nat) : Int))), (4, .int (iI ((((cnt (visb (omF au) er ac) k : Nat) : Int) - ((n9 + 1 : Nat) : Int)) + 1))), (5, .int (iI ((n9 + 1 : Nat) : Int))), (0, .ref hm), (1, .int (iI (x))), (2, .int (iI 1))]) hx hb dX5_run_126 hl (k := 7) rfl ((iI_add _ _).trans (ii (rfl))) (by decide) rfl (fun ls hl => ?_)
                    refine lv_goto (tgt := 39) hx hb dX5_run_129 (by decide) ?_
                    have hl : lv_has ls 8 [(7, .int (iI ((k + 1 : Nat) : Int))), (6, .int (iI ((cnt (visb (omF au) er ac) (k + 1) : Nat) : Int))), (3, .int (iI ((best : Nat) : Int))), (4, .int (iI ((((cnt (visb (omF au) er ac) k : Nat) : Int) - ((n9 + 1 : Nat) : Int)) + 1))), (5, .int (iI ((n9 + 1 : Nat) : Int))), (0, .ref hm), (1, .int (iI (x))), (2, .int (iI 1))] := lv_chg hl 1 6 rfl (show ((((cnt (visb (omF au) er ac) k) + 1 : Nat) : Int) : Int) = ((cnt (visb (omF au) er ac) (k + 1) : Nat) : Int) from by first | (rw [cnt_vt (by assumption)]) | (rw [cnt_vf (by assumption)])) rfl
                    exact ih_39 (k + 1) (n9 + 1) best ((((cnt (visb (omF au) er ac) k : Nat) : Int) - ((n9 + 1 : Nat) : Int)) + 1) (by first | omega | (rw [← hre9.1]) | (rw [← hre9.2]) | exact hre9.1 | exact hre9.2) (by first | assumption | (first | omega | (rw [← hre9.1]) | (rw [← hre9.2]) | exact hre9.1 | exact hre9.2)) (by first | (rw [cnt_vf (by assumption)]; assumption) | (rw [cnt_vt (by assumption)]; have h9 := hqk (by omega) (by assumption); first | exact RI_f ir (fun z => absurd (h9.mp z) (by omega)) | exact RI_n ir (h9.mpr (by omega)) (by omega) | exact RI_k ir (h9.mpr (by omega)) (by omega)) | (exfalso; omega)) ls (lv_sub hl [5, 6, 7, 2, 3, 4, 1, 0] rfl)
                  · skip
                    refine lv_iload hx hb dX5_run_116 (lv_at hl 1 rfl) ?_
                    refine lv_goto (tgt := 122) hx hb dX5_run_118 (by decide) ?_
                    refine lv_istore_n (lv' := [(3, .int (iI ((n9 + 1 : Nat) : Int))), (4, .int (iI ((((cnt (visb (omF au) er ac) k : Nat) : Int) - ((n9 + 1 : Nat) : Int)) + 1))), (5, .int (iI ((n9 + 1 : Nat) : Int))), (0, .ref hm), (1, .int (iI (x))), (2, .int (iI 1)), (6, .int (iI ((cnt (visb (omF au) er ac) k : Nat) : Int))), (7, .int (iI ((k : Nat) : Int)))]) hx hb dX5_run_122 rfl hl (by decide) rfl (fun ls hl => ?_)
                    refine lv_iinc (v := iI (((cnt (visb (omF au) er ac) k) + 1 : Nat) : Int)) (lv' := [(6, .int (iI (((cnt (visb (omF au) er ac) k) + 1 : Nat) : Int))), (3, .int (iI ((n9 + 1 : Nat) : Int))), (4, .int (iI ((((cnt (visb (omF au) er ac) k : Nat) : Int) - ((n9 + 1 : Nat) : Int)) + 1))), (5, .int (iI ((n9 + 1 : Nat) : Int))), (0, .ref hm), (1, .int (iI (x))), (2, .int (iI 1)), (7, .int (iI ((k : Nat) : Int)))]) hx hb dX5_run_123 hl (k := 6) rfl ((iI_add _ _).trans (ii (rfl))) (by decide) rfl (fun ls hl => ?_)
                    refine lv_iinc (v := iI ((k + 1 : Nat) : Int)) (lv' := [(7, .int (iI ((k + 1 : Nat) : Int))), (6, .int (iI (((cnt (visb (omF au) er ac) k) + 1 : Nat) : Int))), (3, .int (iI ((n9 + 1 : Nat) : Int))), (4, .int (iI ((((cnt (visb (omF au) er ac) k : Nat) : Int) - ((n9 + 1 : Nat) : Int)) + 1))), (5, .int (iI ((n9 + 1 : Nat) : Int))), (0, .ref hm), (1, .int (iI (x))), (2, .int (iI 1))]) hx hb dX5_run_126 hl (k := 7) rfl ((iI_add _ _).trans (ii (rfl))) (by decide) rfl (fun ls hl => ?_)
                    refine lv_goto (tgt := 39) hx hb dX5_run_129 (by decide) ?_
                    have hl : lv_has ls 8 [(7, .int (iI ((k + 1 : Nat) : Int))), (6, .int (iI ((cnt (visb (omF au) er ac) (k + 1) : Nat) : Int))), (3, .int (iI ((n9 + 1 : Nat) : Int))), (4, .int (iI ((((cnt (visb (omF au) er ac) k : Nat) : Int) - ((n9 + 1 : Nat) : Int)) + 1))), (5, .int (iI ((n9 + 1 : Nat) : Int))), (0, .ref hm), (1, .int (iI (x))), (2, .int (iI 1))] := lv_chg hl 1 6 rfl (show ((((cnt (visb (omF au) er ac) k) + 1 : Nat) : Int) : Int) = ((cnt (visb (omF au) er ac) (k + 1) : Nat) : Int) from by first | (rw [cnt_vt (by assumption)]) | (rw [cnt_vf (by assumption)])) rfl
                    exact ih_39 (k + 1) (n9 + 1) (n9 + 1) ((((cnt (visb (omF au) er ac) k : Nat) : Int) - ((n9 + 1 : Nat) : Int)) + 1) (by first | omega | (rw [← hre9.1]) | (rw [← hre9.2]) | exact hre9.1 | exact hre9.2) (by first | assumption | (first | omega | (rw [← hre9.1]) | (rw [← hre9.2]) | exact hre9.1 | exact hre9.2)) (by first | (rw [cnt_vf (by assumption)]; assumption) | (rw [cnt_vt (by assumption)]; have h9 := hqk (by omega) (by assumption); first | exact RI_f ir (fun z => absurd (h9.mp z) (by omega)) | exact RI_n ir (h9.mpr (by omega)) (by omega) | exact RI_k ir (h9.mpr (by omega)) (by omega)) | (exfalso; omega)) ls (lv_sub hl [5, 6, 7, 2, 3, 4, 1, 0] rfl)
      have hl : lv_has ls 8 [(7, .int (iI 0)), (6, .int (iI ((cnt (visb (omF au) er ac) 0 : Nat) : Int))), (5, .int (iI 0)), (4, .int (iI (-9))), (3, .int (iI 0)), (0, .ref hm), (1, .int (iI (x))), (2, .int (iI 1))] := lv_chg hl 1 6 rfl (show (0 : Int) = ((cnt (visb (omF au) er ac) 0 : Nat) : Int) from by rfl) rfl
      exact loop_39 ((cn - 0) + 1) 0 0 0 (-9) (by first | omega | (rw [← hre9.1]) | (rw [← hre9.2]) | exact hre9.1 | exact hre9.2) (by first | assumption | (first | omega | (rw [← hre9.1]) | (rw [← hre9.2]) | exact hre9.1 | exact hre9.2)) (by exact RI_0) ls (lv_sub hl [5, 6, 7, 4, 3, 2, 1, 0] rfl)
    · skip
      exfalso; omega
  · skip
    refine lv_aload_n hx hb dX5_run_5 rfl (lv_at hl 0 rfl) ?_
    refine lv_iload_n hx hb dX5_run_6 rfl (lv_at hl 1 rfl) ?_
    refine callVO (n := 1) (As := [.int (iI (x))]) (rest := []) (wc := [(hm, .inr (5, [.ref m1, .ref m2, .ref m3, .int (iI ((pa : Nat) : Int)), .int (iI ((pb : Nat) : Int)), .ref m4, .int (iI ((cp : Nat) : Int)), .ref m5, .int (iI ((ty : Nat) : Int)), .ref m6, .int (iI ((nx : Nat) : Int)), .int (iI (fi)), .int (iI (se)), .int (iI ((le : Nat) : Int)), .ref m7, .int (iI (bp)), .ref m8])), (m1, .inl (cI, 516, .inl (rI (sF cn en ac cu co au er ki bs))))]) S (m_isEdit l D cI cB cZ cO hm m1 m2 m3 m4 m5 m6 m7 m8 pa pb cp ty nx fi se le bp cn en ac cu co au er ki bs x (by first | assumption | (first | omega | (rw [← hre9.1]) | (rw [← hre9.2]) | exact hre9.1 | exact hre9.2)) (by first | assumption | (first | omega | (rw [← hre9.1]) | (rw [← hre9.2]) | exact hre9.1 | exact hre9.2))) gX5_run_X5_isEdit rfl ⟨rfl, rfl⟩ (by decide +kernel) ⟨Nat.le_of_ble_eq_true rfl, Nat.le_of_ble_eq_true rfl⟩ hE hP [0, 1] rfl 5 0 rfl rfl rfl hl.1 rfl (Nat.le_of_ble_eq_true rfl) dX5_run_7 ⟨Nat.le_of_ble_eq_true rfl, Nat.le_of_ble_eq_true rfl⟩ ?_
    refine r_ifb_eq (tgt := 22) hx hb dX5_run_10 (by decide) (fun c_13 => ?_) (fun c_13 => ?_)
    · skip
      exfalso; omega
    · skip
      refine lv_iload_n hx hb dX5_run_13 rfl (lv_at hl 2 rfl) ?_
      refine r_iconst hx hb dX5_run_14 ?_
      refine r_iconst hx hb dX5_run_15 ?_
      rw [show (1 : Int) = (1) from by first | omega | (rw [← hre9.1]) | (rw [← hre9.2]) | exact hre9.1 | exact hre9.2]
      rw [show (0 : Int) = (0) from by first | omega | (rw [← hre9.1]) | (rw [← hre9.2]) | exact hre9.1 | exact hre9.2]
      rw [show (1 : Int) = (1) from by first | omega | (rw [← hre9.1]) | (rw [← hre9.2]) | exact hre9.1 | exact hre9.2]
      refine callSO (n := 3) (As := [.int (iI (1)), .int (iI (0)), .int (iI (1))]) (rest := []) (wc := []) S (m_in l D cI cB cZ cO 1 0 1 (by first | assumption | (first | omega | (rw [← hre9.1]) | (rw [← hre9.2]) | exact hre9.1 | exact hre9.2)) (by first | assumption | (first | omega | (rw [← hre9.1]) | (rw [← hre9.2]) | exact hre9.1 | exact hre9.2)) (by first | assumption | (first | omega | (rw [← hre9.1]) | (rw [← hre9.2]) | exact hre9.1 | exact hre9.2))) gX5_run_X5_in rfl ⟨rfl, rfl⟩ (by decide +kernel) ⟨Nat.le_of_ble_eq_true rfl, Nat.le_of_ble_eq_true rfl⟩ hE hP [] rfl rfl hl.1 rfl (Nat.le_of_ble_eq_true rfl) dX5_run_16 ⟨Nat.le_of_ble_eq_true rfl, Nat.le_of_ble_eq_true rfl⟩ ?_
      refine r_ifb_ne (tgt := 24) hx hb dX5_run_19 (by decide) (fun c_14 => ?_) (fun c_14 => ?_)
      · skip
        refine r_iconst hx hb dX5_run_24 ?_
        refine lv_istore_n (lv' := [(3, .int (iI 0)), (0, .ref hm), (1, .int (iI (x))), (2, .int (iI 1))]) hx hb dX5_run_25 rfl hl (by decide) rfl (fun ls hl => ?_)
        refine r_bipush hx hb dX5_run_26 (by decide) ?_
        refine lv_istore (lv' := [(4, .int (iI (-9))), (3, .int (iI 0)), (0, .ref hm), (1, .int (iI (x))), (2, .int (iI 1))]) hx hb dX5_run_28 hl (by decide) rfl (fun ls hl => ?_)
        refine r_iconst hx hb dX5_run_30 ?_
        refine lv_istore (lv' := [(5, .int (iI 0)), (4, .int (iI (-9))), (3, .int (iI 0)), (0, .ref hm), (1, .int (iI (x))), (2, .int (iI 1))]) hx hb dX5_run_31 hl (by decide) rfl (fun ls hl => ?_)
        refine r_iconst hx hb dX5_run_33 ?_
        refine lv_istore (lv' := [(6, .int (iI 0)), (5, .int (iI 0)), (4, .int (iI (-9))), (3, .int (iI 0)), (0, .ref hm), (1, .int (iI (x))), (2, .int (iI 1))]) hx hb dX5_run_34 hl (by decide) rfl (fun ls hl => ?_)
        refine r_iconst hx hb dX5_run_36 ?_
        refine lv_istore (lv' := [(7, .int (iI 0)), (6, .int (iI 0)), (5, .int (iI 0)), (4, .int (iI (-9))), (3, .int (iI 0)), (0, .ref hm), (1, .int (iI (x))), (2, .int (iI 1))]) hx hb dX5_run_37 hl (by decide) rfl (fun ls hl => ?_)
        have loop_39 : ∀ (n_39 : Nat) (k : Nat) (n9 : Nat) (best : Nat) (fst9 : Int), (cn - k) < n_39 → (k ≤ cn) → (RI qb (cnt (visb (omF au) er ac) k) n9 best fst9) → ∀ (ls : Array Slot), lv_has ls 8 [(0, .ref hm), (1, .int (iI (x))), (2, .int (iI 1)), (3, .int (iI ((best : Nat) : Int))), (4, .int (iI (fst9))), (5, .int (iI ((n9 : Nat) : Int))), (6, .int (iI ((cnt (visb (omF au) er ac) k : Nat) : Int))), (7, .int (iI ((k : Nat) : Int)))] → W p l e ({ frames := 2, cells := 0, slots := 0, locals := 43 }) s m ([.ref hm, .int (iI (x)), .int (iI 1)] : List Value).toArray below meth c s.heap [] 0 0 (MQ below (QO (if stp qb (bst qb (cnt (visb (omF au) er ac) cn)) (cnt (visb (omF au) er ac) cn) = 0 then -9 else ((bst qb (cnt (visb (omF au) er ac) cn) : Nat) : Int))) ([.ref hm, .int (iI (x)), .int (iI 1)] : List Value).toArray s 0 0 (fun _ => False)) (F0 m 39 ls []) := by
          intro n_39
          induction n_39 with
          | zero => intro k n9 best fst9 h_meas; exact absurd h_meas (Nat.not_lt_zero _)
          | succ n_39 ih_39 =>
            intro k n9 best fst9 h_m39 ik ir ls hl
            have hauk := hau k
            have hck := cnt_le (visb (omF au) er ac) k
            have hn9 := ir.1.1
            have hbl : best ≤ cnt (visb (omF au) er ac) k := by obtain ⟨b, _, _, h3, _, _⟩ := ir.2; have := stp_le qb b (cnt (visb (omF au) er ac) k); omega
            have hqk := hqb k
            refine lv_iload hx hb dX5_run_39 (lv_at hl 7 rfl) ?_
            refine lv_aload_n hx hb dX5_run_41 rfl (lv_at hl 0 rfl) ?_
            refine va_get (D := D) (ci := 5) (v := .ref m1) (C := RX5) (T := TX5) (N := 17) hx hb hts nX5_run_X5 hown hK hP 0 rfl rfl 0 (by decide) (hts _ kX5_run_7) (fun _ h9 => h9) rfl dX5_run_42 ?_
            refine r_iconst hx hb dX5_run_45 ?_
            refine r_ialdV (v := ((cn : Nat) : Int)) hx hb hK hP 1 0 rfl rfl (0) (rfl) (by decide) (by decide) (rfl) dX5_run_46 ?_
            refine r_icmp_ge (tgt := 132) hx hb (by first | omega | (rw [← hre9.1]) | (rw [← hre9.2]) | exact hre9.1 | exact hre9.2) (by first | omega | (rw [← hre9.1]) | (rw [← hre9.2]) | exact hre9.1 | exact hre9.2) dX5_run_47 (by decide) (fun c_15 => ?_) (fun c_15 => ?_)
            · skip
              obtain rfl : cn = k := by omega
              have hre9 := RI_e ir
              refine lv_iload_n hx hb dX5_run_132 rfl (lv_at hl 2 rfl) ?_
              refine r_if_ne (tgt := 140) hx hb (⟨by decide, by decide⟩) dX5_run_133 (by decide) (fun c_16 => ?_) (fun c_16 => ?_)
              · skip
                refine lv_iload hx hb dX5_run_140 (lv_at hl 4 rfl) ?_
                exact r_iretO hx hb hr hlocks (by first | omega | (rw [← hre9.1]) | (rw [← hre9.2]) | exact hre9.1 | exact hre9.2) dX5_run_142
              · skip
                exact absurd c_16 (by decide)
            · skip
              refine lv_aload_n hx hb dX5_run_50 rfl (lv_at hl 0 rfl) ?_
              refine lv_iload hx hb dX5_run_51 (lv_at hl 7 rfl) ?_
              refine lv_aload_n hx hb dX5_run_53 rfl (lv_at hl 0 rfl) ?_
              refine va_get (D := D) (ci := 5) (v := .ref m1) (C := RX5) (T := TX5) (N := 17) hx hb hts nX5_run_X5 hown hK hP 0 rfl rfl 0 (by decide) (hts _ kX5_run_7) (fun _ h9 => h9) rfl dX5_run_54 ?_
              refine r_iconst hx hb dX5_run_57 ?_
              refine r_ialdV (v := ((ac : Nat) : Int)) hx hb hK hP 1 0 rfl rfl (2) (rfl) (by decide) (by decide) (rfl) dX5_run_58 ?_
              refine callVO (n := 2) (As := [.int (iI ((k : Nat) : Int)), .int (iI ((ac : Nat) : Int))]) (rest := []) (wc := [(hm, .inr (5, [.ref m1, .ref m2, .ref m3, .int (iI ((pa : Nat) : Int)), .int (iI ((pb : Nat) : Int)), .ref m4, .int (iI ((cp : Nat) : Int)), .ref m5, .int (iI ((ty : Nat) : Int)), .ref m6, .int (iI ((nx : Nat) : Int)), .int (iI (fi)), .int (iI (se)), .int (iI ((le : Nat) : Int)), .ref m7, .int (iI (bp)), .ref m8])), (m1, .inl (cI, 516, .inl (rI (sF cn en ac cu co au er ki bs))))]) S (m_isVisible l D cI cB cZ cO hm m1 m2 m3 m4 m5 m6 m7 m8 pa pb cp ty nx fi se le bp cn en ac cu co au er ki bs k ac (by first | assumption | (first | omega | (rw [← hre9.1]) | (rw [← hre9.2]) | exact hre9.1 | exact hre9.2)) (by first | assumption | (first | omega | (rw [← hre9.1]) | (rw [← hre9.2]) | exact hre9.1 | exact hre9.2)) (by first | assumption | (first | omega | (rw [← hre9.1]) | (rw [← hre9.2]) | exact hre9.1 | exact hre9.2)) (by first | assumption | (first | omega | (rw [← hre9.1]) | (rw [← hre9.2]) | exact hre9.1 | exact hre9.2))) gX5_run_X5_isVisible rfl ⟨rfl, rfl⟩ (by decide +kernel) ⟨Nat.le_of_ble_eq_true rfl, Nat.le_of_ble_eq_true rfl⟩ hE hP [0, 1] rfl 5 0 rfl rfl rfl hl.1 rfl (Nat.le_of_ble_eq_true rfl) dX5_run_59 ⟨Nat.le_of_ble_eq_true rfl, Nat.le_of_ble_eq_true rfl⟩ ?_
              refine r_ifb_eq (tgt := 126) hx hb dX5_run_62 (by decide) (fun c_17 => ?_) (fun c_17 => ?_)
              · skip
                refine lv_iinc (v := iI ((k + 1 : Nat) : Int)) (lv' := [(7, .int (iI ((k + 1 : Nat) : Int))), (0, .ref hm), (1, .int (iI (x))), (2, .int (iI 1)), (3, .int (iI ((best : Nat) : Int))), (4, .int (iI (fst9))), (5, .int (iI ((n9 : Nat) : Int))), (6, .int (iI ((cnt (visb (omF au) er ac) k : Nat) : Int)))]) hx hb dX5_run_126 hl (k := 7) rfl ((iI_add _ _).trans (ii (rfl))) (by decide) rfl (fun ls hl => ?_)
                refine lv_goto (tgt := 39) hx hb dX5_run_129 (by decide) ?_
                have hl : lv_has ls 8 [(7, .int (iI ((k + 1 : Nat) : Int))), (0, .ref hm), (1, .int (iI (x))), (2, .int (iI 1)), (3, .int (iI ((best : Nat) : Int))), (4, .int (iI (fst9))), (5, .int (iI ((n9 : Nat) : Int))), (6, .int (iI ((cnt (visb (omF au) er ac) (k + 1) : Nat) : Int)))] := lv_chg hl 7 6 rfl (show (((cnt (visb (omF au) er ac) k : Nat) : Int) : Int) = ((cnt (visb (omF au) er ac) (k + 1) : Nat) : Int) from by first | (rw [cnt_vt (by assumption)]) | (rw [cnt_vf (by assumption)])) rfl
                exact ih_39 (k + 1) n9 best fst9 (by first | omega | (rw [← hre9.1]) | (rw [← hre9.2]) | exact hre9.1 | exact hre9.2) (by first | assumption | (first | omega | (rw [← hre9.1]) | (rw [← hre9.2]) | exact hre9.1 | exact hre9.2)) (by first | (rw [cnt_vf (by assumption)]; assumption) | (rw [cnt_vt (by assumption)]; have h9 := hqk (by omega) (by assumption); first | exact RI_f ir (fun z => absurd (h9.mp z) (by omega)) | exact RI_n ir (h9.mpr (by omega)) (by omega) | exact RI_k ir (h9.mpr (by omega)) (by omega)) | (exfalso; omega)) ls (lv_sub hl [1, 2, 3, 4, 5, 6, 7, 0] rfl)
              · skip
                refine lv_aload_n hx hb dX5_run_65 rfl (lv_at hl 0 rfl) ?_
                refine va_get (D := D) (ci := 5) (v := .ref m1) (C := RX5) (T := TX5) (N := 17) hx hb hts nX5_run_X5 hown hK hP 0 rfl rfl 0 (by decide) (hts _ kX5_run_7) (fun _ h9 => h9) rfl dX5_run_66 ?_
                refine r_sipush hx hb dX5_run_69 (by decide) ?_
                refine lv_iload hx hb dX5_run_72 (lv_at hl 7 rfl) ?_
                refine r_iadd (v := ((164 + k : Nat) : Int)) hx hb (rfl) dX5_run_74 ?_
                refine r_ialdV (v := (au k)) hx hb hK hP 1 0 rfl rfl (164 + k) (rfl) (by first | omega | (rw [← hre9.1]) | (rw [← hre9.2]) | exact hre9.1 | exact hre9.2) (by decide) (sF_au (by first | omega | (rw [← hre9.1]) | (rw [← hre9.2]) | exact hre9.1 | exact hre9.2)) dX5_run_75 ?_
                refine lv_iload_n hx hb dX5_run_76 rfl (lv_at hl 1 rfl) ?_
                refine r_icmp_ne (tgt := 87) hx hb (by first | omega | (rw [← hre9.1]) | (rw [← hre9.2]) | exact hre9.1 | exact hre9.2) (by first | omega | (rw [← hre9.1]) | (rw [← hre9.2]) | exact hre9.1 | exact hre9.2) dX5_run_77 (by decide) (fun c_18 => ?_) (fun c_18 => ?_)
                · skip
                  refine r_iconst hx hb dX5_run_87 ?_
                  refine lv_istore (lv' := [(5, .int (iI 0)), (0, .ref hm), (1, .int (iI (x))), (2, .int (iI 1)), (3, .int (iI ((best : Nat) : Int))), (4, .int (iI (fst9))), (6, .int (iI ((cnt (visb (omF au) er ac) k : Nat) : Int))), (7, .int (iI ((k : Nat) : Int)))]) hx hb dX5_run_88 hl (by decide) rfl (fun ls hl => ?_)
                  refine lv_iload hx hb dX5_run_90 (lv_at hl 0 rfl) ?_
                  refine lv_iload_n hx hb dX5_run_92 rfl (lv_at hl 4 rfl) ?_
                  refine r_icmp_le (tgt := 106) hx hb (⟨by decide, by decide⟩) (by first | omega | (rw [← hre9.1]) | (rw [← hre9.2]) | exact hre9.1 | exact hre9.2) dX5_run_93 (by decide) (fun c_19 => ?_) (fun c_19 => ?_)
                  · skip
                    refine lv_iload hx hb dX5_run_106 (lv_at hl 5 rfl) ?_
                    refine lv_istore (lv' := [(4, .int (iI (fst9))), (5, .int (iI 0)), (0, .ref hm), (1, .int (iI (x))), (2, .int (iI 1)), (3, .int (iI ((best : Nat) : Int))), (6, .int (iI ((cnt (visb (omF au) er ac) k : Nat) : Int))), (7, .int (iI ((k : Nat) : Int)))]) hx hb dX5_run_108 hl (by decide) rfl (fun ls hl => ?_)
                    refine lv_iload hx hb dX5_run_110 (lv_at hl 1 rfl) ?_
                    refine lv_iload_n hx hb dX5_run_112 rfl (lv_at hl 5 rfl) ?_
                    refine r_icmp_le (tgt := 121) hx hb (⟨by decide, by decide⟩) (by first | omega | (rw [← hre9.1]) | (rw [← hre9.2]) | exact hre9.1 | exact hre9.2) dX5_run_113 (by decide) (fun c_20 => ?_) (fun c_20 => ?_)
                    · skip
                      refine lv_iload_n hx hb dX5_run_121 rfl (lv_at hl 5 rfl) ?_
                      refine lv_istore_n (lv' := [(3, .int (iI ((best : Nat) : Int))), (4, .int (iI (fst9))), (5, .int (iI 0)), (0, .ref hm), (1, .int (iI (x))), (2, .int (iI 1)), (6, .int (iI ((cnt (visb (omF au) er ac) k : Nat) : Int))), (7, .int (iI ((k : Nat) : Int)))]) hx hb dX5_run_122 rfl hl (by decide) rfl (fun ls hl => ?_)
                      refine lv_iinc (v := iI (((cnt (visb (omF au) er ac) k) + 1 : Nat) : Int)) (lv' := [(6, .int (iI (((cnt (visb (omF au) er ac) k) + 1 : Nat) : Int))), (3, .int (iI ((best : Nat) : Int))), (4, .int (iI (fst9))), (5, .int (iI 0)), (0, .ref hm), (1, .int (iI (x))), (2, .int (iI 1)), (7, .int (iI ((k : Nat) : Int)))]) hx hb dX5_run_123 hl (k := 6) rfl ((iI_add _ _).trans (ii (rfl))) (by decide) rfl (fun ls hl => ?_)
                      refine lv_iinc (v := iI ((k + 1 : Nat) : Int)) (lv' := [(7, .int (iI ((k + 1 : Nat) : Int))), (6, .int (iI (((cnt (visb (omF au) er ac) k) + 1 : Nat) : Int))), (3, .int (iI ((best : Nat) : Int))), (4, .int (iI (fst9))), (5, .int (iI 0)), (0, .ref hm), (1, .int (iI (x))), (2, .int (iI 1))]) hx hb dX5_run_126 hl (k := 7) rfl ((iI_add _ _).trans (ii (rfl))) (by decide) rfl (fun ls hl => ?_)
                      refine lv_goto (tgt := 39) hx hb dX5_run_129 (by decide) ?_
                      have hl : lv_has ls 8 [(7, .int (iI ((k + 1 : Nat) : Int))), (6, .int (iI ((cnt (visb (omF au) er ac) (k + 1) : Nat) : Int))), (3, .int (iI ((best : Nat) : Int))), (4, .int (iI (fst9))), (5, .int (iI 0)), (0, .ref hm), (1, .int (iI (x))), (2, .int (iI 1))] := lv_chg hl 1 6 rfl (show ((((cnt (visb (omF au) er ac) k) + 1 : Nat) : Int) : Int) = ((cnt (visb (omF au) er ac) (k + 1) : Nat) : Int) from by first | (rw [cnt_vt (by assumption)]) | (rw [cnt_vf (by assumption)])) rfl
                      exact ih_39 (k + 1) 0 best fst9 (by first | omega | (rw [← hre9.1]) | (rw [← hre9.2]) | exact hre9.1 | exact hre9.2) (by first | assumption | (first | omega | (rw [← hre9.1]) | (rw [← hre9.2]) | exact hre9.1 | exact hre9.2)) (by first | (rw [cnt_vf (by assumption)]; assumption) | (rw [cnt_vt (by assumption)]; have h9 := hqk (by omega) (by assumption); first | exact RI_f ir (fun z => absurd (h9.mp z) (by omega)) | exact RI_n ir (h9.mpr (by omega)) (by omega) | exact RI_k ir (h9.mpr (by omega)) (by omega)) | (exfalso; omega)) ls (lv_sub hl [5, 6, 7, 2, 3, 4, 1, 0] rfl)
                    · skip
                      refine lv_iload hx hb dX5_run_116 (lv_at hl 1 rfl) ?_
                      refine lv_goto (tgt := 122) hx hb dX5_run_118 (by decide) ?_
                      refine lv_istore_n (lv' := [(3, .int (iI 0)), (4, .int (iI (fst9))), (5, .int (iI 0)), (0, .ref hm), (1, .int (iI (x))), (2, .int (iI 1)), (6, .int (iI ((cnt (visb (omF au) er ac) k : Nat) : Int))), (7, .int (iI ((k : Nat) : Int)))]) hx hb dX5_run_122 rfl hl (by decide) rfl (fun ls hl => ?_)
                      refine lv_iinc (v := iI (((cnt (visb (omF au) er ac) k) + 1 : Nat) : Int)) (lv' := [(6, .int (iI (((cnt (visb (omF au) er ac) k) + 1 : Nat) : Int))), (3, .int (iI 0)), (4, .int (iI (fst9))), (5, .int (iI 0)), (0, .ref hm), (1, .int (iI (x))), (2, .int (iI 1)), (7, .int (iI ((k : Nat) : Int)))]) hx hb dX5_run_123 hl (k := 6) rfl ((iI_add _ _).trans (ii (rfl))) (by decide) rfl (fun ls hl => ?_)
                      refine lv_iinc (v := iI ((k + 1 : Nat) : Int)) (lv' := [(7, .int (iI ((k + 1 : Nat) : Int))), (6, .int (iI (((cnt (visb (omF au) er ac) k) + 1 : Nat) : Int))), (3, .int (iI 0)), (4, .int (iI (fst9))), (5, .int (iI 0)), (0, .ref hm), (1, .int (iI (x))), (2, .int (iI 1))]) hx hb dX5_run_126 hl (k := 7) rfl ((iI_add _ _).trans (ii (rfl))) (by decide) rfl (fun ls hl => ?_)
                      refine lv_goto (tgt := 39) hx hb dX5_run_129 (by decide) ?_
                      have hl : lv_has ls 8 [(7, .int (iI ((k + 1 : Nat) : Int))), (6, .int (iI ((cnt (visb (omF au) er ac) (k + 1) : Nat) : Int))), (3, .int (iI 0)), (4, .int (iI (fst9))), (5, .int (iI 0)), (0, .ref hm), (1, .int (iI (x))), (2, .int (iI 1))] := lv_chg hl 1 6 rfl (show ((((cnt (visb (omF au) er ac) k) + 1 : Nat) : Int) : Int) = ((cnt (visb (omF au) er ac) (k + 1) : Nat) : Int) from by first | (rw [cnt_vt (by assumption)]) | (rw [cnt_vf (by assumption)])) rfl
                      exact ih_39 (k + 1) 0 0 fst9 (by first | omega | (rw [← hre9.1]) | (rw [← hre9.2]) | exact hre9.1 | exact hre9.2) (by first | assumption | (first | omega | (rw [← hre9.1]) | (rw [← hre9.2]) | exact hre9.1 | exact hre9.2)) (by first | (rw [cnt_vf (by assumption)]; assumption) | (rw [cnt_vt (by assumption)]; have h9 := hqk (by omega) (by assumption); first | exact RI_f ir (fun z => absurd (h9.mp z) (by omega)) | exact RI_n ir (h9.mpr (by omega)) (by omega) | exact RI_k ir (h9.mpr (by omega)) (by omega)) | (exfalso; omega)) ls (lv_sub hl [5, 6, 7, 2, 3, 4, 1, 0] rfl)
                  · skip
                    refine lv_iload hx hb dX5_run_96 (lv_at hl 6 rfl) ?_
                    refine lv_iload hx hb dX5_run_98 (lv_at hl 0 rfl) ?_
                    refine r_isub (v := (((cnt (visb (omF au) er ac) k : Nat) : Int) - 0)) hx hb (rfl) dX5_run_100 ?_
                    refine r_iconst hx hb dX5_run_101 ?_
                    refine r_iadd (v := ((((cnt (visb (omF au) er ac) k : Nat) : Int) - 0) + 1)) hx hb (rfl) dX5_run_102 ?_
                    refine lv_goto (tgt := 108) hx hb dX5_run_103 (by decide) ?_
                    refine lv_istore (lv' := [(4, .int (iI ((((cnt (visb (omF au) er ac) k : Nat) : Int) - 0) + 1))), (5, .int (iI 0)), (0, .ref hm), (1, .int (iI (x))), (2, .int (iI 1)), (3, .int (iI ((best : Nat) : Int))), (6, .int (iI ((cnt (visb (omF au) er ac) k : Nat) : Int))), (7, .int (iI ((k : Nat) : Int)))]) hx hb dX5_run_108 hl (by decide) rfl (fun ls hl => ?_)
                    refine lv_iload hx hb dX5_run_110 (lv_at hl 1 rfl) ?_
                    refine lv_iload_n hx hb dX5_run_112 rfl (lv_at hl 5 rfl) ?_
                    refine r_icmp_le (tgt := 121) hx hb (⟨by decide, by decide⟩) (by first | omega | (rw [← hre9.1]) | (rw [← hre9.2]) | exact hre9.1 | exact hre9.2) dX5_run_113 (by decide) (fun c_21 => ?_) (fun c_21 => ?_)
                    · skip
                      refine lv_iload_n hx hb dX5_run_121 rfl (lv_at hl 5 rfl) ?_
                      refine lv_istore_n (lv' := [(3, .int (iI ((best : Nat) : Int))), (4, .int (iI ((((cnt (visb (omF au) er ac) k : Nat) : Int) - 0) + 1))), (5, .int (iI 0)), (0, .ref hm), (1, .int (iI (x))), (2, .int (iI 1)), (6, .int (iI ((cnt (visb (omF au) er ac) k : Nat) : Int))), (7, .int (iI ((k : Nat) : Int)))]) hx hb dX5_run_122 rfl hl (by decide) rfl (fun ls hl => ?_)
                      refine lv_iinc (v := iI (((cnt (visb (omF au) er ac) k) + 1 : Nat) : Int)) (lv' := [(6, .int (iI (((cnt (visb (omF au) er ac) k) + 1 : Nat) : Int))), (3, .int (iI ((best : Nat) : Int))), (4, .int (iI ((((cnt (visb (omF au) er ac) k : Nat) : Int) - 0) + 1))), (5, .int (iI 0)), (0, .ref hm), (1, .int (iI (x))), (2, .int (iI 1)), (7, .int (iI ((k : Nat) : Int)))]) hx hb dX5_run_123 hl (k := 6) rfl ((iI_add _ _).trans (ii (rfl))) (by decide) rfl (fun ls hl => ?_)
                      refine lv_iinc (v := iI ((k + 1 : Nat) : Int)) (lv' := [(7, .int (iI ((k + 1 : Nat) : Int))), (6, .int (iI (((cnt (visb (omF au) er ac) k) + 1 : Nat) : Int))), (3, .int (iI ((best : Nat) : Int))), (4, .int (iI ((((cnt (visb (omF au) er ac) k : Nat) : Int) - 0) + 1))), (5, .int (iI 0)), (0, .ref hm), (1, .int (iI (x))), (2, .int (iI 1))]) hx hb dX5_run_126 hl (k := 7) rfl ((iI_add _ _).trans (ii (rfl))) (by decide) rfl (fun ls hl => ?_)
                      refine lv_goto (tgt := 39) hx hb dX5_run_129 (by decide) ?_
                      have hl : lv_has ls 8 [(7, .int (iI ((k + 1 : Nat) : Int))), (6, .int (iI ((cnt (visb (omF au) er ac) (k + 1) : Nat) : Int))), (3, .int (iI ((best : Nat) : Int))), (4, .int (iI ((((cnt (visb (omF au) er ac) k : Nat) : Int) - 0) + 1))), (5, .int (iI 0)), (0, .ref hm), (1, .int (iI (x))), (2, .int (iI 1))] := lv_chg hl 1 6 rfl (show ((((cnt (visb (omF au) er ac) k) + 1 : Nat) : Int) : Int) = ((cnt (visb (omF au) er ac) (k + 1) : Nat) : Int) from by first | (rw [cnt_vt (by assumption)]) | (rw [cnt_vf (by assumption)])) rfl
                      exact ih_39 (k + 1) 0 best ((((cnt (visb (omF au) er ac) k : Nat) : Int) - 0) + 1) (by first | omega | (rw [← hre9.1]) | (rw [← hre9.2]) | exact hre9.1 | exact hre9.2) (by first | assumption | (first | omega | (rw [← hre9.1]) | (rw [← hre9.2]) | exact hre9.1 | exact hre9.2)) (by first | (rw [cnt_vf (by assumption)]; assumption) | (rw [cnt_vt (by assumption)]; have h9 := hqk (by omega) (by assumption); first | exact RI_f ir (fun z => absurd (h9.mp z) (by omega)) | exact RI_n ir (h9.mpr (by omega)) (by omega) | exact RI_k ir (h9.mpr (by omega)) (by omega)) | (exfalso; omega)) ls (lv_sub hl [5, 6, 7, 2, 3, 4, 1, 0] rfl)
                    · skip
                      refine lv_iload hx hb dX5_run_116 (lv_at hl 1 rfl) ?_
                      refine lv_goto (tgt := 122) hx hb dX5_run_118 (by decide) ?_
                      refine lv_istore_n (lv' := [(3, .int (iI 0)), (4, .int (iI ((((cnt (visb (omF au) er ac) k : Nat) : Int) - 0) + 1))), (5, .int (iI 0)), (0, .ref hm), (1, .int (iI (x))), (2, .int (iI 1)), (6, .int (iI ((cnt (visb (omF au) er ac) k : Nat) : Int))), (7, .int (iI ((k : Nat) : Int)))]) hx hb dX5_run_122 rfl hl (by decide) rfl (fun ls hl => ?_)
                      refine lv_iinc (v := iI (((cnt (visb (omF au) er ac) k) + 1 : Nat) : Int)) (lv' := [(6, .int (iI (((cnt (visb (omF au) er ac) k) + 1 : Nat) : Int))), (3, .int (iI 0)), (4, .int (iI ((((cnt (visb (omF au) er ac) k : Nat) : Int) - 0) + 1))), (5, .int (iI 0)), (0, .ref hm), (1, .int (iI (x))), (2, .int (iI 1)), (7, .int (iI ((k : Nat) : Int)))]) hx hb dX5_run_123 hl (k := 6) rfl ((iI_add _ _).trans (ii (rfl))) (by decide) rfl (fun ls hl => ?_)
                      refine lv_iinc (v := iI ((k + 1 : Nat) : Int)) (lv' := [(7, .int (iI ((k + 1 : Nat) : Int))), (6, .int (iI (((cnt (visb (omF au) er ac) k) + 1 : Nat) : Int))), (3, .int (iI 0)), (4, .int (iI ((((cnt (visb (omF au) er ac) k : Nat) : Int) - 0) + 1))), (5, .int (iI 0)), (0, .ref hm), (1, .int (iI (x))), (2, .int (iI 1))]) hx hb dX5_run_126 hl (k := 7) rfl ((iI_add _ _).trans (ii (rfl))) (by decide) rfl (fun ls hl => ?_)
                      refine lv_goto (tgt := 39) hx hb dX5_run_129 (by decide) ?_
                      have hl : lv_has ls 8 [(7, .int (iI ((k + 1 : Nat) : Int))), (6, .int (iI ((cnt (visb (omF au) er ac) (k + 1) : Nat) : Int))), (3, .int (iI 0)), (4, .int (iI ((((cnt (visb (omF au) er ac) k : Nat) : Int) - 0) + 1))), (5, .int (iI 0)), (0, .ref hm), (1, .int (iI (x))), (2, .int (iI 1))] := lv_chg hl 1 6 rfl (show ((((cnt (visb (omF au) er ac) k) + 1 : Nat) : Int) : Int) = ((cnt (visb (omF au) er ac) (k + 1) : Nat) : Int) from by first | (rw [cnt_vt (by assumption)]) | (rw [cnt_vf (by assumption)])) rfl
                      exact ih_39 (k + 1) 0 0 ((((cnt (visb (omF au) er ac) k : Nat) : Int) - 0) + 1) (by first | omega | (rw [← hre9.1]) | (rw [← hre9.2]) | exact hre9.1 | exact hre9.2) (by first | assumption | (first | omega | (rw [← hre9.1]) | (rw [← hre9.2]) | exact hre9.1 | exact hre9.2)) (by first | (rw [cnt_vf (by assumption)]; assumption) | (rw [cnt_vt (by assumption)]; have h9 := hqk (by omega) (by assumption); first | exact RI_f ir (fun z => absurd (h9.mp z) (by omega)) | exact RI_n ir (h9.mpr (by omega)) (by omega) | exact RI_k ir (h9.mpr (by omega)) (by omega)) | (exfalso; omega)) ls (lv_sub hl [5, 6, 7, 2, 3, 4, 1, 0] rfl)
                · skip
                  refine lv_iload hx hb dX5_run_80 (lv_at hl 5 rfl) ?_
                  refine r_iconst hx hb dX5_run_82 ?_
                  refine r_iadd (v := ((n9 + 1 : Nat) : Int)) hx hb (rfl) dX5_run_83 ?_
                  refine lv_goto (tgt := 88) hx hb dX5_run_84 (by decide) ?_
                  refine lv_istore (lv' := [(5, .int (iI ((n9 + 1 : Nat) : Int))), (0, .ref hm), (1, .int (iI (x))), (2, .int (iI 1)), (3, .int (iI ((best : Nat) : Int))), (4, .int (iI (fst9))), (6, .int (iI ((cnt (visb (omF au) er ac) k : Nat) : Int))), (7, .int (iI ((k : Nat) : Int)))]) hx hb dX5_run_88 hl (by decide) rfl (fun ls hl => ?_)
                  refine lv_iload hx hb dX5_run_90 (lv_at hl 0 rfl) ?_
                  refine lv_iload_n hx hb dX5_run_92 rfl (lv_at hl 4 rfl) ?_
                  refine r_icmp_le (tgt := 106) hx hb (by first | omega | (rw [← hre9.1]) | (rw [← hre9.2]) | exact hre9.1 | exact hre9.2) (by first | omega | (rw [← hre9.1]) | (rw [← hre9.2]) | exact hre9.1 | exact hre9.2) dX5_run_93 (by decide) (fun c_22 => ?_) (fun c_22 => ?_)
                  · skip
                    refine lv_iload hx hb dX5_run_106 (lv_at hl 5 rfl) ?_
                    refine lv_istore (lv' := [(4, .int (iI (fst9))), (5, .int (iI ((n9 + 1 : Nat) : Int))), (0, .ref hm), (1, .int (iI (x))), (2, .int (iI 1)), (3, .int (iI ((best : Nat) : Int))), (6, .int (iI ((cnt (visb (omF au) er ac) k : Nat) : Int))), (7, .int (iI ((k : Nat) : Int)))]) hx hb dX5_run_108 hl (by decide) rfl (fun ls hl => ?_)
                    refine lv_iload hx hb dX5_run_110 (lv_at hl 1 rfl) ?_
                    refine lv_iload_n hx hb dX5_run_112 rfl (lv_at hl 5 rfl) ?_
                    refine r_icmp_le (tgt := 121) hx hb (by first | omega | (rw [← hre9.1]) | (rw [← hre9.2]) | exact hre9.1 | exact hre9.2) (by first | omega | (rw [← hre9.1]) | (rw [← hre9.2]) | exact hre9.1 | exact hre9.2) dX5_run_113 (by decide) (fun c_23 => ?_) (fun c_23 => ?_)
                    · skip
                      refine lv_iload_n hx hb dX5_run_121 rfl (lv_at hl 5 rfl) ?_
                      refine lv_istore_n (lv' := [(3, .int (iI ((best : Nat) : Int))), (4, .int (iI (fst9))), (5, .int (iI ((n9 + 1 : Nat) : Int))), (0, .ref hm), (1, .int (iI (x))), (2, .int (iI 1)), (6, .int (iI ((cnt (visb (omF au) er ac) k : Nat) : Int))), (7, .int (iI ((k : Nat) : Int)))]) hx hb dX5_run_122 rfl hl (by decide) rfl (fun ls hl => ?_)
                      refine lv_iinc (v := iI (((cnt (visb (omF au) er ac) k) + 1 : Nat) : Int)) (lv' := [(6, .int (iI (((cnt (visb (omF au) er ac) k) + 1 : Nat) : Int))), (3, .int (iI ((best : Nat) : Int))), (4, .int (iI (fst9))), (5, .int (iI ((n9 + 1 : Nat) : Int))), (0, .ref hm), (1, .int (iI (x))), (2, .int (iI 1)), (7, .int (iI ((k : Nat) : Int)))]) hx hb dX5_run_123 hl (k := 6) rfl ((iI_add _ _).trans (ii (rfl))) (by decide) rfl (fun ls hl => ?_)
                      refine lv_iinc (v := iI ((k + 1 : Nat) : Int)) (lv' := [(7, .int (iI ((k + 1 : Nat) : Int))), (6, .int (iI (((cnt (visb (omF au) er ac) k) + 1 : Nat) : Int))), (3, .int (iI ((best : Nat) : Int))), (4, .int (iI (fst9))), (5, .int (iI ((n9 + 1 : Nat) : Int))), (0, .ref hm), (1, .int (iI (x))), (2, .int (iI 1))]) hx hb dX5_run_126 hl (k := 7) rfl ((iI_add _ _).trans (ii (rfl))) (by decide) rfl (fun ls hl => ?_)
                      refine lv_goto (tgt := 39) hx hb dX5_run_129 (by decide) ?_
                      have hl : lv_has ls 8 [(7, .int (iI ((k + 1 : Nat) : Int))), (6, .int (iI ((cnt (visb (omF au) er ac) (k + 1) : Nat) : Int))), (3, .int (iI ((best : Nat) : Int))), (4, .int (iI (fst9))), (5, .int (iI ((n9 + 1 : Nat) : Int))), (0, .ref hm), (1, .int (iI (x))), (2, .int (iI 1))] := lv_chg hl 1 6 rfl (show ((((cnt (visb (omF au) er ac) k) + 1 : Nat) : Int) : Int) = ((cnt (visb (omF au) er ac) (k + 1) : Nat) : Int) from by first | (rw [cnt_vt (by assumption)]) | (rw [cnt_vf (by assumption)])) rfl
                      exact ih_39 (k + 1) (n9 + 1) best fst9 (by first | omega | (rw [← hre9.1]) | (rw [← hre9.2]) | exact hre9.1 | exact hre9.2) (by first | assumption | (first | omega | (rw [← hre9.1]) | (rw [← hre9.2]) | exact hre9.1 | exact hre9.2)) (by first | (rw [cnt_vf (by assumption)]; assumption) | (rw [cnt_vt (by assumption)]; have h9 := hqk (by omega) (by assumption); first | exact RI_f ir (fun z => absurd (h9.mp z) (by omega)) | exact RI_n ir (h9.mpr (by omega)) (by omega) | exact RI_k ir (h9.mpr (by omega)) (by omega)) | (exfalso; omega)) ls (lv_sub hl [5, 6, 7, 2, 3, 4, 1, 0] rfl)
                    · skip
                      refine lv_iload hx hb dX5_run_116 (lv_at hl 1 rfl) ?_
                      refine lv_goto (tgt := 122) hx hb dX5_run_118 (by decide) ?_
                      refine lv_istore_n (lv' := [(3, .int (iI ((n9 + 1 : Nat) : Int))), (4, .int (iI (fst9))), (5, .int (iI ((n9 + 1 : Nat) : Int))), (0, .ref hm), (1, .int (iI (x))), (2, .int (iI 1)), (6, .int (iI ((cnt (visb (omF au) er ac) k : Nat) : Int))), (7, .int (iI ((k : Nat) : Int)))]) hx hb dX5_run_122 rfl hl (by decide) rfl (fun ls hl => ?_)
                      refine lv_iinc (v := iI (((cnt (visb (omF au) er ac) k) + 1 : Nat) : Int)) (lv' := [(6, .int (iI (((cnt (visb (omF au) er ac) k) + 1 : Nat) : Int))), (3, .int (iI ((n9 + 1 : Nat) : Int))), (4, .int (iI (fst9))), (5, .int (iI ((n9 + 1 : Nat) : Int))), (0, .ref hm), (1, .int (iI (x))), (2, .int (iI 1)), (7, .int (iI ((k : Nat) : Int)))]) hx hb dX5_run_123 hl (k := 6) rfl ((iI_add _ _).trans (ii (rfl))) (by decide) rfl (fun ls hl => ?_)
                      refine lv_iinc (v := iI ((k + 1 : Nat) : Int)) (lv' := [(7, .int (iI ((k + 1 : Nat) : Int))), (6, .int (iI (((cnt (visb (omF au) er ac) k) + 1 : Nat) : Int))), (3, .int (iI ((n9 + 1 : Nat) : Int))), (4, .int (iI (fst9))), (5, .int (iI ((n9 + 1 : Nat) : Int))), (0, .ref hm), (1, .int (iI (x))), (2, .int (iI 1))]) hx hb dX5_run_126 hl (k := 7) rfl ((iI_add _ _).trans (ii (rfl))) (by decide) rfl (fun ls hl => ?_)
                      refine lv_goto (tgt := 39) hx hb dX5_run_129 (by decide) ?_
                      have hl : lv_has ls 8 [(7, .int (iI ((k + 1 : Nat) : Int))), (6, .int (iI ((cnt (visb (omF au) er ac) (k + 1) : Nat) : Int))), (3, .int (iI ((n9 + 1 : Nat) : Int))), (4, .int (iI (fst9))), (5, .int (iI ((n9 + 1 : Nat) : Int))), (0, .ref hm), (1, .int (iI (x))), (2, .int (iI 1))] := lv_chg hl 1 6 rfl (show ((((cnt (visb (omF au) er ac) k) + 1 : Nat) : Int) : Int) = ((cnt (visb (omF au) er ac) (k + 1) : Nat) : Int) from by first | (rw [cnt_vt (by assumption)]) | (rw [cnt_vf (by assumption)])) rfl
                      exact ih_39 (k + 1) (n9 + 1) (n9 + 1) fst9 (by first | omega | (rw [← hre9.1]) | (rw [← hre9.2]) | exact hre9.1 | exact hre9.2) (by first | assumption | (first | omega | (rw [← hre9.1]) | (rw [← hre9.2]) | exact hre9.1 | exact hre9.2)) (by first | (rw [cnt_vf (by assumption)]; assumption) | (rw [cnt_vt (by assumption)]; have h9 := hqk (by omega) (by assumption); first | exact RI_f ir (fun z => absurd (h9.mp z) (by omega)) | exact RI_n ir (h9.mpr (by omega)) (by omega) | exact RI_k ir (h9.mpr (by omega)) (by omega)) | (exfalso; omega)) ls (lv_sub hl [5, 6, 7, 2, 3, 4, 1, 0] rfl)
                  · skip
                    refine lv_iload hx hb dX5_run_96 (lv_at hl 6 rfl) ?_
                    refine lv_iload hx hb dX5_run_98 (lv_at hl 0 rfl) ?_
                    refine r_isub (v := (((cnt (visb (omF au) er ac) k : Nat) : Int) - ((n9 + 1 : Nat) : Int))) hx hb (rfl) dX5_run_100 ?_
                    refine r_iconst hx hb dX5_run_101 ?_
                    refine r_iadd (v := ((((cnt (visb (omF au) er ac) k : Nat) : Int) - ((n9 + 1 : Nat) : Int)) + 1)) hx hb (rfl) dX5_run_102 ?_
                    refine lv_goto (tgt := 108) hx hb dX5_run_103 (by decide) ?_
                    refine lv_istore (lv' := [(4, .int (iI ((((cnt (visb (omF au) er ac) k : Nat) : Int) - ((n9 + 1 : Nat) : Int)) + 1))), (5, .int (iI ((n9 + 1 : Nat) : Int))), (0, .ref hm), (1, .int (iI (x))), (2, .int (iI 1)), (3, .int (iI ((best : Nat) : Int))), (6, .int (iI ((cnt (visb (omF au) er ac) k : Nat) : Int))), (7, .int (iI ((k : Nat) : Int)))]) hx hb dX5_run_108 hl (by decide) rfl (fun ls hl => ?_)
                    refine lv_iload hx hb dX5_run_110 (lv_at hl 1 rfl) ?_
                    refine lv_iload_n hx hb dX5_run_112 rfl (lv_at hl 5 rfl) ?_
                    refine r_icmp_le (tgt := 121) hx hb (by first | omega | (rw [← hre9.1]) | (rw [← hre9.2]) | exact hre9.1 | exact hre9.2) (by first | omega | (rw [← hre9.1]) | (rw [← hre9.2]) | exact hre9.1 | exact hre9.2) dX5_run_113 (by decide) (fun c_24 => ?_) (fun c_24 => ?_)
                    · skip
                      refine lv_iload_n hx hb dX5_run_121 rfl (lv_at hl 5 rfl) ?_
                      refine lv_istore_n (lv' := [(3, .int (iI ((best : Nat) : Int))), (4, .int (iI ((((cnt (visb (omF au) er ac) k : Nat) : Int) - ((n9 + 1 : Nat) : Int)) + 1))), (5, .int (iI ((n9 + 1 : Nat) : Int))), (0, .ref hm), (1, .int (iI (x))), (2, .int (iI 1)), (6, .int (iI ((cnt (visb (omF au) er ac) k : Nat) : Int))), (7, .int (iI ((k : Nat) : Int)))]) hx hb dX5_run_122 rfl hl (by decide) rfl (fun ls hl => ?_)
                      refine lv_iinc (v := iI (((cnt (visb (omF au) er ac) k) + 1 : Nat) : Int)) (lv' := [(6, .int (iI (((cnt (visb (omF au) er ac) k) + 1 : Nat) : Int))), (3, .int (iI ((best : Nat) : Int))), (4, .int (iI ((((cnt (visb (omF au) er ac) k : Nat) : Int) - ((n9 + 1 : Nat) : Int)) + 1))), (5, .int (iI ((n9 + 1 : Nat) : Int))), (0, .ref hm), (1, .int (iI (x))), (2, .int (iI 1)), (7, .int (iI ((k : Nat) : Int)))]) hx hb dX5_run_123 hl (k := 6) rfl ((iI_add _ _).trans (ii (rfl))) (by decide) rfl (fun ls hl => ?_)
                      refine lv_iinc (v := iI ((k + 1 : Nat) : Int)) (lv' := [(7, .int (iI ((k + 1 : Nat) : Int))), (6, .int (iI (((cnt (visb (omF au) er ac) k) + 1 : Nat) : Int))), (3, .int (iI ((best : Nat) : Int))), (4, .int (iI ((((cnt (visb (omF au) er ac) k : Nat) : Int) - ((n9 + 1 : Nat) : Int)) + 1))), (5, .int (iI ((n9 + 1 : Nat) : Int))), (0, .ref hm), (1, .int (iI (x))), (2, .int (iI 1))]) hx hb dX5_run_126 hl (k := 7) rfl ((iI_add _ _).trans (ii (rfl))) (by decide) rfl (fun ls hl => ?_)
                      refine lv_goto (tgt := 39) hx hb dX5_run_129 (by decide) ?_
                      have hl : lv_has ls 8 [(7, .int (iI ((k + 1 : Nat) : Int))), (6, .int (iI ((cnt (visb (omF au) er ac) (k + 1) : Nat) : Int))), (3, .int (iI ((best : Nat) : Int))), (4, .int (iI ((((cnt (visb (omF au) er ac) k : Nat) : Int) - ((n9 + 1 : Nat) : Int)) + 1))), (5, .int (iI ((n9 + 1 : Nat) : Int))), (0, .ref hm), (1, .int (iI (x))), (2, .int (iI 1))] := lv_chg hl 1 6 rfl (show ((((cnt (visb (omF au) er ac) k) + 1 : Nat) : Int) : Int) = ((cnt (visb (omF au) er ac) (k + 1) : Nat) : Int) from by first | (rw [cnt_vt (by assumption)]) | (rw [cnt_vf (by assumption)])) rfl
                      exact ih_39 (k + 1) (n9 + 1) best ((((cnt (visb (omF au) er ac) k : Nat) : Int) - ((n9 + 1 : Nat) : Int)) + 1) (by first | omega | (rw [← hre9.1]) | (rw [← hre9.2]) | exact hre9.1 | exact hre9.2) (by first | assumption | (first | omega | (rw [← hre9.1]) | (rw [← hre9.2]) | exact hre9.1 | exact hre9.2)) (by first | (rw [cnt_vf (by assumption)]; assumption) | (rw [cnt_vt (by assumption)]; have h9 := hqk (by omega) (by assumption); first | exact RI_f ir (fun z => absurd (h9.mp z) (by omega)) | exact RI_n ir (h9.mpr (by omega)) (by omega) | exact RI_k ir (h9.mpr (by omega)) (by omega)) | (exfalso; omega)) ls (lv_sub hl [5, 6, 7, 2, 3, 4, 1, 0] rfl)
                    · skip
                      refine lv_iload hx hb dX5_run_116 (lv_at hl 1 rfl) ?_
                      refine lv_goto (tgt := 122) hx hb dX5_run_118 (by decide) ?_
                      refine lv_istore_n (lv' := [(3, .int (iI ((n9 + 1 : Nat) : Int))), (4, .int (iI ((((cnt (visb (omF au) er ac) k : Nat) : Int) - ((n9 + 1 : Nat) : Int)) + 1))), (5, .int (iI ((n9 + 1 : Nat) : Int))), (0, .ref hm), (1, .int (iI (x))), (2, .int (iI 1)), (6, .int (iI ((cnt (visb (omF au) er ac) k : Nat) : Int))), (7, .int (iI ((k : Nat) : Int)))]) hx hb dX5_run_122 rfl hl (by decide) rfl (fun ls hl => ?_)
                      refine lv_iinc (v := iI (((cnt (visb (omF au) er ac) k) + 1 : Nat) : Int)) (lv' := [(6, .int (iI (((cnt (visb (omF au) er ac) k) + 1 : Nat) : Int))), (3, .int (iI ((n9 + 1 : Nat) : Int))), (4, .int (iI ((((cnt (visb (omF au) er ac) k : Nat) : Int) - ((n9 + 1 : Nat) : Int)) + 1))), (5, .int (iI ((n9 + 1 : Nat) : Int))), (0, .ref hm), (1, .int (iI (x))), (2, .int (iI 1)), (7, .int (iI ((k : Nat) : Int)))]) hx hb dX5_run_123 hl (k := 6) rfl ((iI_add _ _).trans (ii (rfl))) (by decide) rfl (fun ls hl => ?_)
                      refine lv_iinc (v := iI ((k + 1 : Nat) : Int)) (lv' := [(7, .int (iI ((k + 1 : Nat) : Int))), (6, .int (iI (((cnt (visb (omF au) er ac) k) + 1 : Nat) : Int))), (3, .int (iI ((n9 + 1 : Nat) : Int))), (4, .int (iI ((((cnt (visb (omF au) er ac) k : Nat) : Int) - ((n9 + 1 : Nat) : Int)) + 1))), (5, .int (iI ((n9 + 1 : Nat) : Int))), (0, .ref hm), (1, .int (iI (x))), (2, .int (iI 1))]) hx hb dX5_run_126 hl (k := 7) rfl ((iI_add _ _).trans (ii (rfl))) (by decide) rfl (fun ls hl => ?_)
                      refine lv_goto (tgt := 39) hx hb dX5_run_129 (by decide) ?_
                      have hl : lv_has ls 8 [(7, .int (iI ((k + 1 : Nat) : Int))), (6, .int (iI ((cnt (visb (omF au) er ac) (k + 1) : Nat) : Int))), (3, .int (iI ((n9 + 1 : Nat) : Int))), (4, .int (iI ((((cnt (visb (omF au) er ac) k : Nat) : Int) - ((n9 + 1 : Nat) : Int)) + 1))), (5, .int (iI ((n9 + 1 : Nat) : Int))), (0, .ref hm), (1, .int (iI (x))), (2, .int (iI 1))] := lv_chg hl 1 6 rfl (show ((((cnt (visb (omF au) er ac) k) + 1 : Nat) : Int) : Int) = ((cnt (visb (omF au) er ac) (k + 1) : Nat) : Int) from by first | (rw [cnt_vt (by assumption)]) | (rw [cnt_vf (by assumption)])) rfl
                      exact ih_39 (k + 1) (n9 + 1) (n9 + 1) ((((cnt (visb (omF au) er ac) k : Nat) : Int) - ((n9 + 1 : Nat) : Int)) + 1) (by first | omega | (rw [← hre9.1]) | (rw [← hre9.2]) | exact hre9.1 | exact hre9.2) (by first | assumption | (first | omega | (rw [← hre9.1]) | (rw [← hre9.2]) | exact hre9.1 | exact hre9.2)) (by first | (rw [cnt_vf (by assumption)]; assumption) | (rw [cnt_vt (by assumption)]; have h9 := hqk (by omega) (by assumption); first | exact RI_f ir (fun z => absurd (h9.mp z) (by omega)) | exact RI_n ir (h9.mpr (by omega)) (by omega) | exact RI_k ir (h9.mpr (by omega)) (by omega)) | (exfalso; omega)) ls (lv_sub hl [5, 6, 7, 2, 3, 4, 1, 0] rfl)
        have hl : lv_has ls 8 [(7, .int (iI 0)), (6, .int (iI ((cnt (visb (omF au) er ac) 0 : Nat) : Int))), (5, .int (iI 0)), (4, .int (iI (-9))), (3, .int (iI 0)), (0, .ref hm), (1, .int (iI (x))), (2, .int (iI 1))] := lv_chg hl 1 6 rfl (show (0 : Int) = ((cnt (visb (omF au) er ac) 0 : Nat) : Int) from by rfl) rfl
        exact loop_39 ((cn - 0) + 1) 0 0 0 (-9) (by first | omega | (rw [← hre9.1]) | (rw [← hre9.2]) | exact hre9.1 | exact hre9.2) (by first | assumption | (first | omega | (rw [← hre9.1]) | (rw [← hre9.2]) | exact hre9.1 | exact hre9.2)) (by exact RI_0) ls (lv_sub hl [5, 6, 7, 4, 3, 2, 1, 0] rfl)
      · skip
        exfalso; omega
